/-! bits; what is drawn -/
theorem zb_sl : ∀ n, n < 32 → ((nI n &&& 31).toBitVec.smod 32).toNat = n := by decide +kernel
theorem zb_and (a b : Nat) : nI a &&& nI b = nI (a &&& b) := by
  apply Int32.toBitVec_inj.1
  show BitVec.ofNat 32 a &&& BitVec.ofNat 32 b = BitVec.ofNat 32 (a &&& b)
  apply BitVec.eq_of_getLsbD_eq
  intro i hi
  simp [hi]
theorem zb_or (a b : Nat) : nI a ||| nI b = nI (a ||| b) := by
  apply Int32.toBitVec_inj.1
  show BitVec.ofNat 32 a ||| BitVec.ofNat 32 b = BitVec.ofNat 32 (a ||| b)
  apply BitVec.eq_of_getLsbD_eq
  intro i hi
  simp [hi]
theorem zb_xor (a b : Nat) : nI a ^^^ nI b = nI (a ^^^ b) := by
  apply Int32.toBitVec_inj.1
  show BitVec.ofNat 32 a ^^^ BitVec.ofNat 32 b = BitVec.ofNat 32 (a ^^^ b)
  apply BitVec.eq_of_getLsbD_eq
  intro i hi
  simp [hi]
theorem zb_shl {p : Nat} (hp : p < 31) : nI 1 <<< (nI p &&& 31) = nI (2 ^ p) := by
  rw [pk_shlN _ p (zb_sl p (by omega)) (by rw [Nat.one_mul]; exact Nat.pow_lt_pow_right (by decide) (by omega)), Nat.one_mul]
theorem zb_shr {D p : Nat} (hD : D < 2 ^ 31) (hp : p < 32) : nI D >>> (nI p &&& 31) = nI (D / 2 ^ p) := pk_shrN hD _ p (zb_sl p hp)
theorem zb_bit {D p : Nat} (hD : D < 2 ^ 31) (hp : p < 32) : (nI D >>> (nI p &&& 31)) &&& nI 1 = nI (if D.testBit p then 1 else 0) := by
  rw [zb_shr hD hp, zb_and]
  congr 1
  rw [Nat.and_one_is_mod, Nat.testBit_eq_decide_div_mod_eq]
  rcases Nat.mod_two_eq_zero_or_one (D / 2 ^ p) with h | h <;> simp [h]
theorem pset_bit (g : Nat → Nat) : ∀ n p, (pset g n).testBit p = true ↔ ∃ i, i < n ∧ g i = p := by
  intro n
  induction n with
  | zero => intro p; simp [pset]
  | succ n ih =>
    intro p
    rw [pset, Nat.testBit_or, Bool.or_eq_true, ih, Nat.testBit_two_pow]
    simp only [decide_eq_true_eq]
    constructor
    · rintro (⟨i, h1, h2⟩ | h)
      · exact ⟨i, by omega, h2⟩
      · exact ⟨n, by omega, h⟩
    · rintro ⟨i, h1, h2⟩
      by_cases hi : i = n
      · exact Or.inr (by rw [← hi]; exact h2)
      · exact Or.inl ⟨i, by omega, h2⟩
theorem pset_lt (g : Nat → Nat) (b : Nat) : ∀ n, (∀ i, i < n → g i < b) → pset g n < 2 ^ b := by
  intro n
  induction n with
  | zero => intro _; exact Nat.two_pow_pos b
  | succ n ih =>
    intro h
    rw [pset]
    exact Nat.or_lt_two_pow (ih (fun i hi => h i (by omega))) (Nat.pow_lt_pow_right (by decide) (h n (by omega)))
theorem pset_congr {g g' : Nat → Nat} : ∀ n, (∀ i, i < n → g i = g' i) → pset g n = pset g' n := by
  intro n
  induction n with
  | zero => intro _; rfl
  | succ n ih => intro h; rw [pset, pset, ih (fun i hi => h i (by omega)), h n (by omega)]
/-- the order: the more usual first, of alike ones the first -/
def bef (u : Nat → Nat) (a b : Nat) : Prop := u b < u a ∨ (u a = u b ∧ a < b)
theorem dA_mem {u : Nat → Nat} (hu : ∀ p, p < 10 → u p ≤ 9) : ∀ w, w ≤ 9 → ∀ p, p ∈ dA u w ↔ p < 10 ∧ 10 ≤ u p + w := by
  intro w
  induction w with
  | zero => intro _ p; simp [dA]; intro h; have := hu p h; omega
  | succ w ih =>
    intro hw p
    rw [dA, List.mem_append, ih (by omega), List.mem_filter, List.mem_range]
    simp only [beq_iff_eq]
    constructor
    · rintro (⟨h1, h2⟩ | ⟨h1, h2⟩)
      · exact ⟨h1, by omega⟩
      · exact ⟨h1, by omega⟩
    · rintro ⟨h1, h2⟩
      by_cases h : 10 ≤ u p + w
      · exact Or.inl ⟨h1, h⟩
      · exact Or.inr ⟨h1, by omega⟩
theorem dA_pw {u : Nat → Nat} (hu : ∀ p, p < 10 → u p ≤ 9) : ∀ w, w ≤ 9 → (dA u w).Pairwise (bef u) := by
  intro w
  induction w with
  | zero => intro _; exact List.Pairwise.nil
  | succ w ih =>
    intro hw
    rw [dA, List.pairwise_append]
    refine ⟨ih (by omega), ?_, fun a ha b hb => ?_⟩
    · rw [List.pairwise_filter]
      exact List.pairwise_lt_range.imp (fun {a b} h ha hb => by
        simp only [beq_iff_eq] at ha hb
        exact Or.inr ⟨by omega, h⟩)
    · have h1 := (dA_mem hu w (by omega) a).mp ha
      rw [List.mem_filter] at hb
      simp only [beq_iff_eq] at hb
      exact Or.inl (by omega)
theorem dFull_mem {u : Nat → Nat} (hu : ∀ p, p < 10 → u p ≤ 9) (p : Nat) : p ∈ dFull u ↔ p < 10 ∧ 0 < u p := by
  rw [dFull, dA_mem hu 9 (by omega)]
  constructor <;> rintro ⟨h1, h2⟩ <;> exact ⟨h1, by omega⟩
theorem dFull_nd {u : Nat → Nat} (hu : ∀ p, p < 10 → u p ≤ 9) : (dFull u).Nodup := (dA_pw hu 9 (by omega)).imp (fun {a b} h e => by
  subst e
  rcases h with h | h
  · omega
  · exact absurd h.2 (by omega))
/-- which one is drawn next -/
def muV (u : Nat → Nat) (o : Option Nat) : Nat := match o with
  | none => 0
  | some b => u b
def muR (u : Nat → Nat) (D : Nat) : Nat → Option Nat
  | 0 => none
  | k + 1 => if muV u (muR u D k) < u k ∧ D.testBit k = false then some k else muR u D k
theorem muR_spec (u : Nat → Nat) (D : Nat) : ∀ k, (muR u D k = none → ∀ p, p < k → D.testBit p = false → u p = 0) ∧ ∀ b, muR u D k = some b → b < k ∧ D.testBit b = false ∧ 0 < u b ∧ ∀ p, p < k → D.testBit p = false → 0 < u p → p = b ∨ bef u b p := by
  intro k
  induction k with
  | zero => exact ⟨fun _ p hp => absurd hp (by omega), fun b h => by cases h⟩
  | succ k ih =>
    rw [muR]
    cases hm : muR u D k with
    | none =>
      have h0 := ih.1 hm
      by_cases hc : 0 < u k ∧ D.testBit k = false
      · have e : (if muV u none < u k ∧ D.testBit k = false then some k else none) = some k := if_pos hc
        rw [e]
        refine ⟨(fun z => by cases z), fun b hb => ?_⟩
        cases hb
        refine ⟨by omega, hc.2, hc.1, fun p hp h1 h2 => ?_⟩
        by_cases hpk : p = k
        · exact Or.inl hpk
        · exact absurd (h0 p (by omega) h1) (by omega)
      · have e : (if muV u none < u k ∧ D.testBit k = false then some k else none) = none := if_neg hc
        rw [e]
        refine ⟨fun _ p hp h1 => ?_, fun b hb => by cases hb⟩
        by_cases hpk : p = k
        · subst hpk
          rcases Nat.eq_zero_or_pos (u p) with q | q
          · exact q
          · exact absurd ⟨q, h1⟩ hc
        · exact h0 p (by omega) h1
    | some c =>
      obtain ⟨h1, h2, h3, h4⟩ := ih.2 c hm
      by_cases hc : u c < u k ∧ D.testBit k = false
      · have e : (if muV u (some c) < u k ∧ D.testBit k = false then some k else some c) = some k := if_pos hc
        rw [e]
        refine ⟨(fun z => by cases z), fun b hb => ?_⟩
        cases hb
        refine ⟨by omega, hc.2, by omega, fun p hp q1 q2 => ?_⟩
        by_cases hpk : p = k
        · exact Or.inl hpk
        · rcases h4 p (by omega) q1 q2 with r | r
          · subst r; exact Or.inr (Or.inl hc.1)
          · rcases r with r | r
            · exact Or.inr (Or.inl (by omega))
            · exact Or.inr (Or.inl (by omega))
      · have e : (if muV u (some c) < u k ∧ D.testBit k = false then some k else some c) = some c := if_neg hc
        rw [e]
        refine ⟨(fun z => by cases z), fun b hb => ?_⟩
        cases hb
        refine ⟨by omega, h2, h3, fun p hp q1 q2 => ?_⟩
        by_cases hpk : p = k
        · subst hpk
          have : ¬ u c < u p := fun z => hc ⟨z, q1⟩
          refine Or.inr ?_
          rcases Nat.lt_or_ge (u p) (u c) with z | z
          · exact Or.inl z
          · exact Or.inr ⟨by omega, h1⟩
        · exact h4 p (by omega) q1 q2
theorem bset_bit (l : List Nat) (p : Nat) : (bset l).testBit p = true ↔ p ∈ l := by
  unfold bset
  rw [pset_bit]
  constructor
  · rintro ⟨i, h1, h2⟩
    rw [List.getD_eq_getElem?_getD, List.getElem?_eq_getElem h1] at h2
    rw [← h2]
    exact List.getElem_mem h1
  · intro h
    obtain ⟨i, h1, h2⟩ := List.getElem_of_mem h
    exact ⟨i, h1, by rw [List.getD_eq_getElem?_getD, List.getElem?_eq_getElem h1]; exact h2⟩
theorem mu_next {u : Nat → Nat} (hu : ∀ p, p < 10 → u p ≤ 9) (i : Nat) : muR u (bset ((dFull u).take i)) 10 = (dFull u)[i]? := by
  obtain ⟨s1, s2⟩ := muR_spec u (bset ((dFull u).take i)) 10
  have hbit : ∀ p, (bset ((dFull u).take i)).testBit p = false ↔ p ∉ (dFull u).take i := fun p => by
    rw [← Bool.not_eq_true, bset_bit]
  have hnd := dFull_nd hu
  have hpw : (dFull u).Pairwise (bef u) := dA_pw hu 9 (by omega)
  by_cases hi : i < (dFull u).length
  · rw [List.getElem?_eq_getElem hi]
    have hsp : (dFull u).take i ++ (dFull u)[i] :: (dFull u).drop (i + 1) = dFull u := by
      rw [← List.drop_eq_getElem_cons hi]
      exact List.take_append_drop i _
    obtain ⟨x, hx⟩ : ∃ x, x = (dFull u)[i] := ⟨_, rfl⟩
    rw [← hx] at hsp ⊢
    have hxm := (dFull_mem hu x).mp (by rw [hx]; exact List.getElem_mem hi)
    have hxn : x ∉ (dFull u).take i := by
      intro h
      rw [← hsp] at hnd
      exact (List.nodup_append.mp hnd).2.2 x h x List.mem_cons_self rfl
    cases hm : muR u (bset ((dFull u).take i)) 10 with
    | none => exact absurd (s1 hm x hxm.1 ((hbit x).mpr hxn)) (by omega)
    | some b =>
      obtain ⟨t1, t2, t3, t4⟩ := s2 b hm
      congr 1
      rcases t4 x hxm.1 ((hbit x).mpr hxn) hxm.2 with r | r
      · exact r.symm
      · have hbm : b ∈ dFull u := (dFull_mem hu b).mpr ⟨t1, t3⟩
        rw [← hsp, List.mem_append, List.mem_cons] at hbm
        rcases hbm with q | q | q
        · exact absurd q ((hbit b).mp t2)
        · exact q
        · rw [← hsp, List.pairwise_append, List.pairwise_cons] at hpw
          have := hpw.2.1.1 b q
          unfold bef at r this
          omega
  · rw [List.getElem?_eq_none (by omega)]
    cases hm : muR u (bset ((dFull u).take i)) 10 with
    | none => rfl
    | some b =>
      obtain ⟨t1, t2, t3, t4⟩ := s2 b hm
      have hbm : b ∈ dFull u := (dFull_mem hu b).mpr ⟨t1, t3⟩
      rw [← List.take_of_length_le (show (dFull u).length ≤ i by omega)] at hbm
      exact absurd hbm ((hbit b).mp t2)
theorem nI_m1 (n : Nat) : nI (n + 1) + (-1) = nI n := by
  rw [nI_succ, Int32.add_assoc, show (1 : Int32) + -1 = 0 by decide, Int32.add_zero]
