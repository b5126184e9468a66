/-! soon of the reference -/
theorem zb_off {a c : Nat} (hb : a.testBit c = true) : nI a &&& (nI (2 ^ c) ^^^ (-1)) = nI (a ^^^ 2 ^ c) := by
  have h1 : ∀ x y : Int32, y &&& (x ^^^ (-1)) = y ^^^ (y &&& x) := by
    intro x y
    apply Int32.toBitVec_inj.1
    show y.toBitVec &&& (x.toBitVec ^^^ BitVec.allOnes 32) = y.toBitVec ^^^ (y.toBitVec &&& x.toBitVec)
    apply BitVec.eq_of_getLsbD_eq
    intro i hi
    rw [BitVec.getLsbD_and, BitVec.getLsbD_xor, BitVec.getLsbD_xor, BitVec.getLsbD_and, BitVec.getLsbD_allOnes, decide_eq_true hi]
    cases y.toBitVec.getLsbD i <;> cases x.toBitVec.getLsbD i <;> rfl
  rw [h1, zb_and, zb_xor]
  congr 2
  refine Nat.eq_of_testBit_eq (fun b => ?_)
  rw [Nat.testBit_and, Nat.testBit_two_pow]
  by_cases h : c = b
  · rw [decide_eq_true h, Bool.and_true, ← h]
    exact hb
  · rw [decide_eq_false h, Bool.and_false]
abbrev fKf (a j : Nat) : Prop := a = 102 ∧ (j = 16 ∨ j = 18) ∨ 112 ≤ a ∧ a ≤ 115
set_option maxRecDepth 20000 in
theorem tX10_knownFrom {E : zE} {d : Nat} {σ : zM} {S : sS} {p w n : Nat} {g : Nat → Nat} (hW : WF S) (hX : RM S σ) (hp : p < sPc S) (hw : w < sBw S 0) (h6 : n ≤ 6) (hg : ∀ i, i < n → g i < 10 ∧ ∀ j, j < i → g i ≠ g j) (hv : ∀ x, x < n → gi σ 122 x = nI (g x)) : Ret E mX10_knownFrom (d + 6) [zr E 102, .int (nI p), .int (nI w), .int (nI n)] σ (qI fun x τ => x = nI (kfD (fun j => decide (kP S p w j g)) n (n + 1)) ∧ Fr fKf σ τ ∧ RM S τ) := by
  have h8 := hW.2.1.1
  have hb8 := bw_le hW (show 0 < 2 by omega)
  have o5 : fv S p < sBw S 0 := (plOK hW hp).2.2.2.2
  refine Ret.of [some (zr E 102), some (.int (nI p)), some (.int (nI w)), some (.int (nI n)), none, none, none] (by decide +kernel) (Nat.le_of_ble_eq_true rfl) rfl ?_
  have loop : ∀ k, k ≤ n → ∀ fr y τ, fr < 100 → kfD (fun j => decide (kP S p w j g)) n (n + 1) = kfD (fun j => decide (kP S p w j g)) k fr → Fr fKf σ τ → RM S τ → At E mX10_knownFrom (d + 6) (qI fun x τ => x = nI (kfD (fun j => decide (kP S p w j g)) n (n + 1)) ∧ Fr fKf σ τ ∧ RM S τ) 8 [some (zr E 102), some (.int (nI p)), some (.int (nI w)), some (.int (nI n)), some (.int (nI fr)), some (.int (nI k)), y] [] τ := by
    intro k
    induction k with
    | zero =>
      intro hk fr y τ hfr he hF hR
      refine z_iload 10 dX10_knownFrom_8 rfl rfl ?_
      refine z_if_le 77 13 dX10_knownFrom_10 (by decide) rfl (fun h10 => ?_) (fun h10 => ?_)
      · (try rw [nI_le0 (by omega)] at h10)
        refine z_iload 79 dX10_knownFrom_77 rfl rfl ?_
        refine z_ri dX10_knownFrom_79 rfl ?_
        exact ⟨by rw [he]; rfl, hF, hR⟩
      · (try rw [nI_le0 (by omega)] at h10)
        omega
    | succ k ih =>
      intro hk fr y τ hfr he hF hR
      have hpt : PtsOK (k + 1) g := ⟨by omega, by omega, fun i hi => hg i (by omega)⟩
      have hgl : hG (gSS S p (k + 1) g none) (sBw S 0) (fv S p) < sBw S 0 := hG_lt o5
      have inner : ∀ i, i ≤ k + 1 → ∀ τ, Fr fKf σ τ → RM S τ → gi τ 102 18 = nI (k + 1) → (∀ x, x < i → gi τ 113 x = nI (g x)) → At E mX10_knownFrom (d + 6) (qI fun x τ => x = nI (kfD (fun j => decide (kP S p w j g)) n (n + 1)) ∧ Fr fKf σ τ ∧ RM S τ) 22 [some (zr E 102), some (.int (nI p)), some (.int (nI w)), some (.int (nI n)), some (.int (nI fr)), some (.int (nI (k + 1))), some (.int (nI i))] [] τ := by
        refine z_up (fun i hi jh τ hF hR h18 hs => ?_)
        by_cases hie : i = k + 1
        · rw [hie] at hs ⊢
          rw [kfD] at he
          refine z_iload 24 dX10_knownFrom_22 rfl rfl ?_
          refine z_iload 26 dX10_knownFrom_24 rfl rfl ?_
          refine z_icmp_ge 49 29 dX10_knownFrom_26 (by decide) rfl (fun h26 => ?_) (fun h26 => ?_)
          · (try rw [nI_leI (by omega) (by omega)] at h26)
            refine z_aload_n 50 dX10_knownFrom_49 rfl rfl ?_
            refine z_iload_n 51 dX10_knownFrom_50 rfl rfl ?_
            refine z_bipush 53 (v := (-9)) dX10_knownFrom_51 rfl rfl ?_
            refine z_cVV2 56 (tX10_sharesS (o := none) hW hR hp ⟨h18, hs⟩ hpt mByV.none) kX10_setShares dX10_knownFrom_53 rfl lX10_193 (by first | assumption | rfl) (Nat.le_of_ble_eq_true rfl) ?_
            rintro τ1 ⟨hF1, hX1, hS1⟩
            have hF2 : Fr fKf σ τ1 := hF.tr hF1 (fun _ _ h => h) (by intros; omega)
            refine z_aload_n 57 dX10_knownFrom_56 rfl rfl ?_
            refine z_cVI0 60 (tX10_greatest hb8 o5 hX1.w0 hS1) kX10_greatest dX10_knownFrom_57 rfl lX10_200 (by first | assumption | rfl) (Nat.le_of_ble_eq_true rfl) ?_
            rintro _ _ ⟨e1, e2⟩
            replace e1 := e1.symm
            replace e2 := e2.symm
            subst e1
            subst e2
            refine z_iload_n 61 dX10_knownFrom_60 rfl rfl ?_
            refine z_icmp_eq 67 64 dX10_knownFrom_61 (by decide) rfl (fun h61 => ?_) (fun h61 => ?_)
            · (try rw [nI_eq (by omega) (by omega)] at h61)
              rw [if_pos (decide_eq_true h61)] at he
              refine z_iload 69 dX10_knownFrom_67 rfl rfl ?_
              refine zs_istore_4_7 71 rfl dX10_knownFrom_69 rfl rfl ?_
              refine zs_iinc_5_7_m1 74 rfl dX10_knownFrom_71 rfl rfl ?_
              rw [nI_dec (by omega), Nat.add_sub_cancel]
              refine z_goto 8 dX10_knownFrom_74 rfl ?_
              exact ih (by omega) (k + 1) _ τ1 (by omega) he hF2 hX1
            · (try rw [nI_eq (by omega) (by omega)] at h61)
              rw [if_neg (by rw [decide_eq_false h61]; decide)] at he
              refine z_iload 66 dX10_knownFrom_64 rfl rfl ?_
              refine z_ri dX10_knownFrom_66 rfl ?_
              exact ⟨by rw [he], hF2, hX1⟩
          · (try rw [nI_leI (by omega) (by omega)] at h26)
            omega
        · have hvi : gi τ 122 i = nI (g i) := (hF.gi (by omega)).trans (hv i (by omega))
          have hf : Fr (fun a j => a = 113) τ (si τ 113 i (nI (g i))) := Fr.rf.si _ rfl
          refine z_iload 24 dX10_knownFrom_22 rfl rfl ?_
          refine z_iload 26 dX10_knownFrom_24 rfl rfl ?_
          refine z_icmp_ge 49 29 dX10_knownFrom_26 (by decide) rfl (fun h26 => ?_) (fun h26 => ?_)
          · (try rw [nI_leI (by omega) (by omega)] at h26)
            omega
          · (try rw [nI_leI (by omega) (by omega)] at h26)
            refine z_aload_n 30 dX10_knownFrom_29 rfl rfl ?_
            refine gX10_44 33 rfl dX10_knownFrom_30 rfl ?_
            refine z_iload 35 dX10_knownFrom_33 rfl rfl ?_
            refine z_aload_n 36 dX10_knownFrom_35 rfl rfl ?_
            refine gX10_72 39 rfl dX10_knownFrom_36 rfl ?_
            refine z_iload 41 dX10_knownFrom_39 rfl rfl ?_
            refine z_ialdn 42 dX10_knownFrom_41 rfl (by first | assumption | rfl) (by omega) ?_
            rw [hvi]
            refine z_iastn 43 dX10_knownFrom_42 rfl (by first | assumption | rfl) (by omega) ?_
            refine zs_iinc_6_7_1 46 rfl dX10_knownFrom_43 rfl rfl ?_
            rw [nI_add]
            refine z_goto 22 dX10_knownFrom_46 rfl ?_
            exact jh (i + 1) (by omega) (by omega) _ (hF.tr hf (fun _ _ h => h) (by intros; omega)) (hR.scr hW (hf.mono (by unfold mS; intros; omega))) ((gi_s2 _ _ (by omega)).trans h18) (fun x hx => by
              rw [gi_si]
              by_cases hki : x = i
              · rw [if_pos ⟨rfl, hki⟩, hki]
              · rw [if_neg (fun z => hki z.2)]; exact hs x (by omega))
      have hf : Fr (fun a j => a = 102 ∧ j = 18) τ (si τ 102 18 (nI (k + 1))) := Fr.rf.si _ ⟨rfl, rfl⟩
      refine z_iload 10 dX10_knownFrom_8 rfl rfl ?_
      refine z_if_le 77 13 dX10_knownFrom_10 (by decide) rfl (fun h10 => ?_) (fun h10 => ?_)
      · (try rw [nI_le0 (by omega)] at h10)
        omega
      · (try rw [nI_le0 (by omega)] at h10)
        refine z_aload_n 14 dX10_knownFrom_13 rfl rfl ?_
        refine z_iload 16 dX10_knownFrom_14 rfl rfl ?_
        refine pX10_178 19 rfl dX10_knownFrom_16 rfl ?_
        refine z_iconst 20 (v := nI 0) dX10_knownFrom_19 rfl rfl ?_
        refine zs_istore_6_7 22 rfl dX10_knownFrom_20 rfl rfl ?_
        exact inner 0 (Nat.zero_le _) _ (hF.tr hf (fun _ _ h => h) (by intros; omega)) (hR.scr hW (hf.mono (by unfold mS; intros; omega))) (gi_s1 _ _ _ _) (fun x hx => absurd hx (Nat.not_lt_zero x))
  refine z_iload_n 1 dX10_knownFrom_0 rfl rfl ?_
  refine z_iconst 2 (v := nI 1) dX10_knownFrom_1 rfl rfl ?_
  refine z_iadd 3 dX10_knownFrom_2 rfl ?_
  rw [nI_add]
  refine zs_istore_4_7 5 rfl dX10_knownFrom_3 rfl rfl ?_
  refine z_iload_n 6 dX10_knownFrom_5 rfl rfl ?_
  refine zs_istore_5_7 8 rfl dX10_knownFrom_6 rfl rfl ?_
  exact loop n (Nat.le_refl _) (n + 1) none σ (by omega) rfl Fr.rf hX
/-- all orders of the parts that are left -/
def enP : Nat → Nat → List Nat → List (List Nat)
  | 0, _, pre => [pre]
  | k + 1, rem, pre => (List.range 10).flatMap (fun c => if rem.testBit c = true then enP k (rem ^^^ 2 ^ c) (pre ++ [c]) else [])
theorem flat_filter {α β : Type} (c : α → Bool) (G : α → List β) : ∀ l : List α, (l.filter c).flatMap G = l.flatMap (fun x => if c x = true then G x else []) := by
  intro l
  induction l with
  | nil => rfl
  | cons a l ih =>
    rw [List.flatMap_cons]
    by_cases h : c a = true
    · rw [List.filter_cons_of_pos h, List.flatMap_cons, if_pos h, ih]
    · rw [List.filter_cons_of_neg h, if_neg h, ih]
      rfl
theorem bl_rng (s : Nat) : bl s 10 = (List.range (pop s)).map (blG s) := by
  apply List.ext_getElem?
  intro i
  rw [List.getElem?_map]
  rcases Nat.lt_or_ge i (pop s) with h | h
  · rw [List.getElem?_range h, List.getElem?_eq_getElem (by rw [bl_popS]; exact h)]
    show _ = some (blG s i)
    show _ = some ((bl s 10).getD i 0)
    rw [getD_at (by rw [bl_popS]; exact h)]
  · rw [List.getElem?_eq_none (by rw [bl_popS]; exact h), List.getElem?_eq_none (by rw [List.length_range]; exact h)]
    rfl
theorem flat_congr {α β : Type} {F G : α → List β} : ∀ l : List α, (∀ x, x ∈ l → F x = G x) → l.flatMap F = l.flatMap G := by
  intro l
  induction l with
  | nil => intro _; rfl
  | cons a l ih =>
    intro h
    rw [List.flatMap_cons, List.flatMap_cons, h a List.mem_cons_self, ih (fun x hx => h x (List.mem_cons_of_mem _ hx))]
theorem blG_inj {s i j : Nat} (hi : i < pop s) (hj : j < pop s) (e : blG s i = blG s j) : i = j := by
  rcases Nat.lt_trichotomy i j with z | z | z
  · exact absurd e.symm ((blG_d (s := s) j hj).2 i z)
  · exact z
  · exact absurd e ((blG_d (s := s) i hi).2 j z)
theorem cont_map {s : Nat} {pre : List Nat} (hpre : preOK (pop s) pre) {i : Nat} (hi : i < pop s) : (pre.map (blG s)).contains (blG s i) = pre.contains i := by
  rw [Bool.eq_iff_iff, cont_iff, cont_iff]
  constructor
  · rintro ⟨x, hx, e⟩
    rw [List.length_map] at hx
    rw [fnL_map hx] at e
    exact ⟨x, hx, blG_inj (hpre x hx).1 hi e⟩
  · rintro ⟨x, hx, e⟩
    refine ⟨x, by rw [List.length_map]; exact hx, ?_⟩
    rw [fnL_map hx, e]
theorem enP_map {s : Nat} (hs : s < 1024) : ∀ k pre rem, preOK (pop s) pre → (∀ c, c < 10 → rem.testBit c = (s.testBit c && !(pre.map (blG s)).contains c)) → enP k rem (pre.map (blG s)) = (en (pop s) 0 k pre).map (fun l => l.map (blG s)) := by
  intro k
  induction k with
  | zero => intro pre rem _ _; rfl
  | succ k ih =>
    intro pre rem hpre hrem
    rw [enP, en, List.map_flatMap]
    have e1 : (List.range 10).flatMap (fun c => if rem.testBit c = true then enP k (rem ^^^ 2 ^ c) (pre.map (blG s) ++ [c]) else []) = (List.range 10).flatMap (fun c => if s.testBit c = true then (if rem.testBit c = true then enP k (rem ^^^ 2 ^ c) (pre.map (blG s) ++ [c]) else []) else []) := flat_congr _ (fun c hc => by
      by_cases h : s.testBit c = true
      · rw [if_pos h]
      · rw [if_neg h, if_neg (by rw [hrem c (List.mem_range.mp hc), Bool.eq_false_iff.mpr h, Bool.false_and]; decide)])
    rw [e1, ← flat_filter (fun c => s.testBit c), show (List.range 10).filter (fun c => s.testBit c) = bl s 10 from rfl, bl_rng, List.flatMap_map]
    refine flat_congr _ (fun i hi => ?_)
    have hi : i < pop s := List.mem_range.mp hi
    have hv := (blG_d (s := s) i hi).1
    have hsb : s.testBit (blG s i) = true := by
      have h1 : (pset (blG s) (pop s)).testBit (blG s i) = true := (pset_bit _ _ _).mpr ⟨i, hi, rfl⟩
      rw [pset_bl hs] at h1
      exact h1
    show (if rem.testBit (blG s i) = true then enP k (rem ^^^ 2 ^ blG s i) (pre.map (blG s) ++ [blG s i]) else []) = List.map (fun l => l.map (blG s)) (if pre.contains (i + 0) = true then [] else en (pop s) 0 k (pre ++ [i + 0]))
    rw [Nat.add_zero, hrem _ hv, hsb, Bool.true_and, cont_map hpre hi]
    cases hc : pre.contains i with
    | true => rfl
    | false =>
      rw [if_pos (by decide), if_neg (by decide), ← ih (pre ++ [i]) (rem ^^^ 2 ^ blG s i) (hpre.app hi hc) (fun c hc2 => ?_), List.map_append]
      · rfl
      · rw [Nat.testBit_xor, Nat.testBit_two_pow, hrem c hc2, List.map_append, show List.map (blG s) [i] = [blG s i] from rfl, cont_app]
        by_cases hcv : c = blG s i
        · rw [hcv, hsb, cont_map hpre hi, hc, decide_eq_true rfl]
          rfl
        · rw [decide_eq_false (fun z => hcv z.symm), decide_eq_false hcv, Bool.or_false, Bool.xor_false]
abbrev fWa (a j : Nat) : Prop := a = 102 ∧ (j = 16 ∨ j = 18 ∨ j = 34) ∨ 112 ≤ a ∧ a ≤ 115 ∨ a = 122 ∨ a = 123
def mWac (σ : zM) (n : Nat) (A : wAcc) : Prop := A.1 ≤ n + 1 ∧ gi σ 102 34 = nI A.1 ∧ (¬ n < A.1 → ∀ x, x < n → gi σ 123 x = nI (fnL A.2 x))
theorem mWac.fr {P : Nat → Nat → Prop} {σ τ : zM} {n : Nat} {A : wAcc} (h : mWac σ n A) (hF : Fr P σ τ) (h1 : ¬ P 102 34) (h2 : ∀ j, ¬ P 123 j) : mWac τ n A := ⟨h.1, (hF.gi h1).trans h.2.1, fun hz x hx => (hF.gi (h2 x)).trans (h.2.2 hz x hx)⟩
set_option maxRecDepth 20000 in
theorem tX10_watch {E : zE} {S : sS} {p w n : Nat} (hW : WF S) (hp : p < sPc S) (hw : w < sBw S 0) (h6 : n ≤ 6) : ∀ k d pre A rem (σ : zM), RM S σ → pre.length + k = n → preOK 10 pre → rem < 1024 → (∀ c, rem.testBit c = true → pre.contains c = false) → (∀ x, x < pre.length → gi σ 122 x = nI (fnL pre x)) → mWac σ n A → Ret E mX10_watch (d + 7 + k) [zr E 102, .int (nI p), .int (nI w), .int (nI rem), .int (nI pre.length), .int (nI n)] σ (qV fun τ => Fr fWa σ τ ∧ RM S τ ∧ mWac τ n ((enP k rem pre).foldl (stP S p w n) A) ∧ ∀ x, x < pre.length → gi τ 122 x = gi σ 122 x) := by
  have h8 := hW.2.1.1
  have hb8 := bw_le hW (show 0 < 2 by omega)
  intro k
  induction k with
  | zero =>
    intro d pre A rem σ hX hlen hpre hrem hdis htb hacc
    have hpl : pre.length = n := by omega
    have hpre' : ∀ i, i < n → fnL pre i < 10 ∧ ∀ j, j < i → fnL pre i ≠ fnL pre j := fun i hi => hpre i (by omega)
    rw [hpl] at htb ⊢
    have hA1 := hacc.1
    have hkl : kfL S p w n pre ≤ n + 1 := kfD_le _ n
    show Ret E mX10_watch (d + 7) _ σ (qV fun τ => Fr fWa σ τ ∧ RM S τ ∧ mWac τ n (stP S p w n A pre) ∧ ∀ x, x < n → gi τ 122 x = gi σ 122 x)
    refine Ret.of [some (zr E 102), some (.int (nI p)), some (.int (nI w)), some (.int (nI rem)), some (.int (nI n)), some (.int (nI n)), none, none] (by decide +kernel) (Nat.le_of_ble_eq_true rfl) rfl ?_
    have put : ∀ i, i ≤ n → ∀ τ, Fr fWa σ τ → RM S τ → gi τ 102 34 = nI (kfL S p w n pre) → kfL S p w n pre < A.1 → (∀ x, x < n → gi τ 122 x = gi σ 122 x) → (∀ x, x < i → gi τ 123 x = nI (fnL pre x)) → At E mX10_watch (d + 7) (qV fun τ => Fr fWa σ τ ∧ RM S τ ∧ mWac τ n (stP S p w n A pre) ∧ ∀ x, x < n → gi τ 122 x = gi σ 122 x) 35 [some (zr E 102), some (.int (nI p)), some (.int (nI w)), some (.int (nI rem)), some (.int (nI n)), some (.int (nI n)), some (.int (nI (kfL S p w n pre))), some (.int (nI i))] [] τ := by
      refine z_up (fun i hi ih τ hF hR h34 hlt h122 hv => ?_)
      by_cases hie : i = n
      · rw [hie] at hv ⊢
        have er : stP S p w n A pre = (kfL S p w n pre, pre) := if_pos hlt
        refine z_iload 37 dX10_watch_35 rfl rfl ?_
        refine z_iload 39 dX10_watch_37 rfl rfl ?_
        refine z_icmp_ge 62 42 dX10_watch_39 (by decide) rfl (fun h39 => ?_) (fun h39 => ?_)
        · (try rw [nI_leI (by omega) (by omega)] at h39)
          refine z_rv dX10_watch_62 rfl ?_
          exact ⟨hF, hR, by rw [er]; exact ⟨hkl, h34, fun _ => hv⟩, h122⟩
        · (try rw [nI_leI (by omega) (by omega)] at h39)
          omega
      · have h1 : gi τ 122 i = nI (fnL pre i) := (h122 i (by omega)).trans (htb i (by omega))
        have hf : Fr (fun a j => a = 123) τ (si τ 123 i (nI (fnL pre i))) := Fr.rf.si _ rfl
        refine z_iload 37 dX10_watch_35 rfl rfl ?_
        refine z_iload 39 dX10_watch_37 rfl rfl ?_
        refine z_icmp_ge 62 42 dX10_watch_39 (by decide) rfl (fun h39 => ?_) (fun h39 => ?_)
        · (try rw [nI_leI (by omega) (by omega)] at h39)
          omega
        · (try rw [nI_leI (by omega) (by omega)] at h39)
          refine z_aload_n 43 dX10_watch_42 rfl rfl ?_
          refine gX10_75 46 rfl dX10_watch_43 rfl ?_
          refine z_iload 48 dX10_watch_46 rfl rfl ?_
          refine z_aload_n 49 dX10_watch_48 rfl rfl ?_
          refine gX10_72 52 rfl dX10_watch_49 rfl ?_
          refine z_iload 54 dX10_watch_52 rfl rfl ?_
          refine z_ialdn 55 dX10_watch_54 rfl (by first | assumption | rfl) (by omega) ?_
          rw [h1]
          refine z_iastn 56 dX10_watch_55 rfl (by first | assumption | rfl) (by omega) ?_
          refine zs_iinc_7_8_1 59 rfl dX10_watch_56 rfl rfl ?_
          rw [nI_add]
          refine z_goto 35 dX10_watch_59 rfl ?_
          exact ih (i + 1) (by omega) (by omega) _ (hF.tr hf (fun _ _ h => h) (by intros; omega)) (hR.scr hW (hf.mono (by unfold mS; intros; omega))) ((gi_s2 _ _ (by omega)).trans h34) hlt (fun x hx => (gi_s2 _ _ (by omega)).trans (h122 x hx)) (fun x hx => by
            rw [gi_si]
            by_cases hki : x = i
            · rw [if_pos ⟨rfl, hki⟩, hki]
            · rw [if_neg (fun z => hki z.2)]; exact hv x (by omega))
    refine z_iload 2 dX10_watch_0 rfl rfl ?_
    refine z_iload 4 dX10_watch_2 rfl rfl ?_
    refine z_icmp_ne 63 7 dX10_watch_4 (by decide) rfl (fun h4 => ?_) (fun h4 => ?_)
    · (try rw [nI_eq (by omega) (by omega)] at h4)
      omega
    · (try rw [nI_eq (by omega) (by omega)] at h4)
      refine z_aload_n 8 dX10_watch_7 rfl rfl ?_
      refine z_iload_n 9 dX10_watch_8 rfl rfl ?_
      refine z_iload_n 10 dX10_watch_9 rfl rfl ?_
      refine z_iload 12 dX10_watch_10 rfl rfl ?_
      refine z_cVI3 15 (tX10_knownFrom hW hX hp hw h6 hpre' (fun x hx => htb x (by omega))) kX10_knownFrom dX10_watch_12 rfl lX10_288 (by first | assumption | rfl) (Nat.le_of_ble_eq_true rfl) ?_
      rintro _ τ1 ⟨e1, hF1, hX1⟩
      subst e1
      have hacc1 := hacc.fr hF1 (by omega) (by intros; omega)
      have hF2 : Fr fWa σ τ1 := hF1.mono (by intros; omega)
      have h122 : ∀ x, x < n → gi τ1 122 x = gi σ 122 x := fun x hx => hF1.gi (by omega)
      rw [show kfD (fun j => decide (kP S p w j (fnL pre))) n (n + 1) = kfL S p w n pre from rfl]
      refine zs_istore_6_8 17 rfl dX10_watch_15 rfl rfl ?_
      refine z_iload 19 dX10_watch_17 rfl rfl ?_
      refine z_aload_n 20 dX10_watch_19 rfl rfl ?_
      refine gX10_291 23 rfl dX10_watch_20 rfl ?_
      rw [hacc1.2.1]
      refine z_icmp_ge 62 26 dX10_watch_23 (by decide) rfl (fun h23 => ?_) (fun h23 => ?_)
      · (try rw [nI_leI (by omega) (by omega)] at h23)
        have er : stP S p w n A pre = A := if_neg (by omega)
        refine z_rv dX10_watch_62 rfl ?_
        exact ⟨hF2, hX1, by rw [er]; exact hacc1, h122⟩
      · (try rw [nI_leI (by omega) (by omega)] at h23)
        refine z_aload_n 27 dX10_watch_26 rfl rfl ?_
        refine z_iload 29 dX10_watch_27 rfl rfl ?_
        refine pX10_291 32 rfl dX10_watch_29 rfl ?_
        refine z_iconst 33 (v := nI 0) dX10_watch_32 rfl rfl ?_
        refine zs_istore_7_8 35 rfl dX10_watch_33 rfl rfl ?_
        have hf : Fr (fun a j => a = 102 ∧ j = 34) τ1 (si τ1 102 34 (nI (kfL S p w n pre))) := Fr.rf.si _ ⟨rfl, rfl⟩
        exact put 0 (Nat.zero_le _) _ (hF2.tr hf (fun _ _ h => h) (by intros; omega)) (hX1.scr hW (hf.mono (by unfold mS; intros; omega))) (gi_s1 _ _ _ _) (by omega) (fun x hx => (gi_s2 _ _ (by omega)).trans (h122 x hx)) (fun x hx => absurd hx (Nat.not_lt_zero x))
  | succ k ih =>
    intro d pre A rem σ hX hlen hpre hrem hdis htb hacc
    show Ret E mX10_watch (d + 7 + k + 1) _ σ _
    refine Ret.of [some (zr E 102), some (.int (nI p)), some (.int (nI w)), some (.int (nI rem)), some (.int (nI pre.length)), some (.int (nI n)), none, none] (by decide +kernel) (Nat.le_of_ble_eq_true rfl) rfl ?_
    have loop : ∀ i, i ≤ 10 → ∀ τ, Fr fWa σ τ → RM S τ → mWac τ n (((List.range i).flatMap (fun c => if rem.testBit c = true then enP k (rem ^^^ 2 ^ c) (pre ++ [c]) else [])).foldl (stP S p w n) A) → (∀ x, x < pre.length → gi τ 122 x = gi σ 122 x) → At E mX10_watch (d + 7 + k + 1) (qV fun τ => Fr fWa σ τ ∧ RM S τ ∧ mWac τ n ((enP (k + 1) rem pre).foldl (stP S p w n) A) ∧ ∀ x, x < pre.length → gi τ 122 x = gi σ 122 x) 66 [some (zr E 102), some (.int (nI p)), some (.int (nI w)), some (.int (nI rem)), some (.int (nI pre.length)), some (.int (nI n)), some (.int (nI i)), none] [] τ := by
      refine z_up (fun i hi lh τ hF hR hacc h122 => ?_)
      by_cases hie : i = 10
      · rw [hie] at hacc ⊢
        refine z_iload 68 dX10_watch_66 rfl rfl ?_
        refine z_bipush 70 (v := nI 10) dX10_watch_68 rfl rfl ?_
        refine z_icmp_ge 118 73 dX10_watch_70 (by decide) rfl (fun h70 => ?_) (fun h70 => ?_)
        · (try rw [nI_leI (by omega) (by omega)] at h70)
          refine z_rv dX10_watch_118 rfl ?_
          exact ⟨hF, hR, hacc, h122⟩
        · (try rw [nI_leI (by omega) (by omega)] at h70)
          omega
      · have lh1 := lh (i + 1) (by omega) (by omega)
        rw [rng_flat, List.foldl_append] at lh1
        by_cases hbt : rem.testBit i = true
        · rw [if_pos hbt] at lh1
          have hf : Fr (fun a j => a = 122) τ (si τ 122 pre.length (nI i)) := Fr.rf.si _ rfl
          have hlA : (pre ++ [i]).length = pre.length + 1 := by rw [List.length_append]; rfl
          have hx2 : rem ^^^ 2 ^ i < 1024 := Nat.xor_lt_two_pow (n := 10) hrem (Nat.pow_lt_pow_right (by decide) (by omega))
          have waX : ∀ x, x < (pre ++ [i]).length → gi (si τ 122 pre.length (nI i)) 122 x = nI (fnL (pre ++ [i]) x) := by
            intro x hx
            rw [hlA] at hx
            rw [gi_si]
            by_cases hl : x = pre.length
            · rw [if_pos ⟨rfl, hl⟩, hl, fnL_app2]
            · rw [if_neg (fun z => hl z.2), fnL_app1 (by omega)]
              exact (h122 x (by omega)).trans (htb x (by omega))
          have hdis2 : ∀ c, (rem ^^^ 2 ^ i).testBit c = true → (pre ++ [i]).contains c = false := by
            intro c hc
            rw [Nat.testBit_xor, Nat.testBit_two_pow] at hc
            rw [cont_app]
            by_cases hci : c = i
            · rw [hci, hbt, decide_eq_true rfl] at hc
              exact absurd hc (by decide)
            · rw [decide_eq_false (fun z => hci z.symm), Bool.xor_false] at hc
              rw [hdis c hc, decide_eq_false hci]
              rfl
          refine z_iload 68 dX10_watch_66 rfl rfl ?_
          refine z_bipush 70 (v := nI 10) dX10_watch_68 rfl rfl ?_
          refine z_icmp_ge 118 73 dX10_watch_70 (by decide) rfl (fun h70 => ?_) (fun h70 => ?_)
          · (try rw [nI_leI (by omega) (by omega)] at h70)
            omega
          · (try rw [nI_leI (by omega) (by omega)] at h70)
            refine z_iload_n 74 dX10_watch_73 rfl rfl ?_
            refine z_iload 76 dX10_watch_74 rfl rfl ?_
            refine z_ishr 77 dX10_watch_76 rfl ?_
            refine z_iconst 78 (v := nI 1) dX10_watch_77 rfl rfl ?_
            refine z_iand 79 dX10_watch_78 rfl ?_
            rw [zb_bit (by omega) (by omega), if_pos hbt]
            refine z_iconst 80 (v := nI 1) dX10_watch_79 rfl rfl ?_
            refine z_icmp_ne 112 83 dX10_watch_80 (by decide) rfl (fun h80 => ?_) (fun h80 => ?_)
            · (try rw [nI_eq (by omega) (by omega)] at h80)
              omega
            · (try rw [nI_eq (by omega) (by omega)] at h80)
              refine z_aload_n 84 dX10_watch_83 rfl rfl ?_
              refine gX10_72 87 rfl dX10_watch_84 rfl ?_
              refine z_iload 89 dX10_watch_87 rfl rfl ?_
              refine z_iload 91 dX10_watch_89 rfl rfl ?_
              refine z_iastn 92 dX10_watch_91 rfl (by first | assumption | rfl) (by omega) ?_
              refine z_aload_n 93 dX10_watch_92 rfl rfl ?_
              refine z_iload_n 94 dX10_watch_93 rfl rfl ?_
              refine z_iload_n 95 dX10_watch_94 rfl rfl ?_
              refine z_iload_n 96 dX10_watch_95 rfl rfl ?_
              refine z_iconst 97 (v := nI 1) dX10_watch_96 rfl rfl ?_
              refine z_iload 99 dX10_watch_97 rfl rfl ?_
              refine z_ishl 100 dX10_watch_99 rfl ?_
              rw [zb_shl (by omega)]
              refine z_iconst 101 (v := (-1)) dX10_watch_100 rfl rfl ?_
              refine z_ixor 102 dX10_watch_101 rfl ?_
              refine z_iand 103 dX10_watch_102 rfl ?_
              rw [zb_off hbt]
              refine z_iload 105 dX10_watch_103 rfl rfl ?_
              refine z_iconst 106 (v := nI 1) dX10_watch_105 rfl rfl ?_
              refine z_iadd 107 dX10_watch_106 rfl ?_
              rw [nI_add]
              refine z_iload 109 dX10_watch_107 rfl rfl ?_
              refine z_cVV5 112 (by rw [← hlA]; exact ih d (pre ++ [i]) _ (rem ^^^ 2 ^ i) (si τ 122 pre.length (nI i)) (hR.scr hW (hf.mono (by unfold mS; intros; omega))) (by omega) (hpre.app (by omega) (hdis i hbt)) hx2 hdis2 waX (hacc.fr hf (by omega) (by intros; omega))) kX10_watch dX10_watch_109 rfl lX10_294 (by first | assumption | rfl) (Nat.le_of_ble_eq_true rfl) ?_
              rintro τ1 ⟨hF1, hX1, hacc1, h1221⟩
              refine zs_iinc_6_8_1 115 rfl dX10_watch_112 rfl rfl ?_
              rw [nI_add]
              refine z_goto 66 dX10_watch_115 rfl ?_
              exact lh1 τ1 ((hF.tr hf (R := fWa) (fun _ _ h => h) (by intros; omega)).tr hF1 (fun _ _ h => h) (fun _ _ h => h)) hX1 hacc1 (fun x hx => ((h1221 x (by omega)).trans (gi_s2 _ _ (by omega))).trans (h122 x hx))
        · rw [if_neg hbt] at lh1
          refine z_iload 68 dX10_watch_66 rfl rfl ?_
          refine z_bipush 70 (v := nI 10) dX10_watch_68 rfl rfl ?_
          refine z_icmp_ge 118 73 dX10_watch_70 (by decide) rfl (fun h70 => ?_) (fun h70 => ?_)
          · (try rw [nI_leI (by omega) (by omega)] at h70)
            omega
          · (try rw [nI_leI (by omega) (by omega)] at h70)
            refine z_iload_n 74 dX10_watch_73 rfl rfl ?_
            refine z_iload 76 dX10_watch_74 rfl rfl ?_
            refine z_ishr 77 dX10_watch_76 rfl ?_
            refine z_iconst 78 (v := nI 1) dX10_watch_77 rfl rfl ?_
            refine z_iand 79 dX10_watch_78 rfl ?_
            rw [zb_bit (by omega) (by omega), if_neg hbt]
            refine z_iconst 80 (v := nI 1) dX10_watch_79 rfl rfl ?_
            refine z_icmp_ne 112 83 dX10_watch_80 (by decide) rfl (fun h80 => ?_) (fun h80 => ?_)
            · (try rw [nI_eq (by omega) (by omega)] at h80)
              refine zs_iinc_6_8_1 115 rfl dX10_watch_112 rfl rfl ?_
              rw [nI_add]
              refine z_goto 66 dX10_watch_115 rfl ?_
              exact lh1 τ hF hR hacc h122
            · (try rw [nI_eq (by omega) (by omega)] at h80)
              omega
    refine z_iload 2 dX10_watch_0 rfl rfl ?_
    refine z_iload 4 dX10_watch_2 rfl rfl ?_
    refine z_icmp_ne 63 7 dX10_watch_4 (by decide) rfl (fun h4 => ?_) (fun h4 => ?_)
    · (try rw [nI_eq (by omega) (by omega)] at h4)
      refine z_iconst 64 (v := nI 0) dX10_watch_63 rfl rfl ?_
      refine zs_istore_6_8 66 rfl dX10_watch_64 rfl rfl ?_
      exact loop 0 (Nat.zero_le _) σ Fr.rf hX hacc (fun x hx => rfl)
    · (try rw [nI_eq (by omega) (by omega)] at h4)
      omega
set_option maxRecDepth 20000 in
theorem tX10_soon {E : zE} {d : Nat} {σ : zM} {S : sS} {p w r c : Int32} (hW : WF S) (hX : RM S σ) : Ret E mX10_soon (d + 14) [zr E 102, .int p, .int w, .int r, .int c] σ (qM σ (spSoon S p w r c)) := by
  have h8 := hW.2.1.1
  have hb8 := bw_le hW (show 0 < 2 by omega)
  by_cases hA : ¬ soOK S p w r c
  · refine Ret.of [some (zr E 102), some (.int p), some (.int w), some (.int r), some (.int c), none, none, none] (by decide +kernel) (Nat.le_of_ble_eq_true rfl) rfl ?_
    refine z_aload_n 1 dX10_soon_0 rfl rfl ?_
    refine z_iload_n 2 dX10_soon_1 rfl rfl ?_
    refine z_cVI1 5 (tX10_isPlayer (by assumption) (by assumption)) kX10_isPlayer dX10_soon_2 rfl lX10_162 (by first | assumption | rfl) (Nat.le_of_ble_eq_true rfl) ?_
    rintro _ _ ⟨e1, e2⟩
    replace e1 := e1.symm
    replace e2 := e2.symm
    subst e1
    subst e2
    refine z_ifb_eq 31 8 dX10_soon_5 (by decide) rfl (fun h5 => ?_) (fun h5 => ?_)
    · refine z_iconst 32 (v := (-1)) dX10_soon_31 rfl rfl ?_
      refine z_ri dX10_soon_32 rfl ?_
      exact qm0 (if_pos hA) hX Fr.rf
    · refine z_aload_n 9 dX10_soon_8 rfl rfl ?_
      refine z_iload_n 10 dX10_soon_9 rfl rfl ?_
      refine z_cVI1 13 (tX10_isWord (by assumption) (by assumption)) kX10_isWord dX10_soon_10 rfl lX10_151 (by first | assumption | rfl) (Nat.le_of_ble_eq_true rfl) ?_
      rintro _ _ ⟨e1, e2⟩
      replace e1 := e1.symm
      replace e2 := e2.symm
      subst e1
      subst e2
      refine z_ifb_eq 31 16 dX10_soon_13 (by decide) rfl (fun h13 => ?_) (fun h13 => ?_)
      · refine z_iconst 32 (v := (-1)) dX10_soon_31 rfl rfl ?_
        refine z_ri dX10_soon_32 rfl ?_
        exact qm0 (if_pos hA) hX Fr.rf
      · refine z_iload_n 17 dX10_soon_16 rfl rfl ?_
        refine z_cSI1 20 (tX10_isRow) kX10_isRow dX10_soon_17 rfl lX10_95 (Nat.le_of_ble_eq_true rfl) ?_
        rintro _ _ ⟨e1, e2⟩
        replace e1 := e1.symm
        replace e2 := e2.symm
        subst e1
        subst e2
        refine z_ifb_eq 31 23 dX10_soon_20 (by decide) rfl (fun h20 => ?_) (fun h20 => ?_)
        · refine z_iconst 32 (v := (-1)) dX10_soon_31 rfl rfl ?_
          refine z_ri dX10_soon_32 rfl ?_
          exact qm0 (if_pos hA) hX Fr.rf
        · refine z_iload 25 dX10_soon_23 rfl rfl ?_
          refine z_cSI1 28 (tX10_isRow) kX10_isRow dX10_soon_25 rfl lX10_95 (Nat.le_of_ble_eq_true rfl) ?_
          rintro _ _ ⟨e1, e2⟩
          replace e1 := e1.symm
          replace e2 := e2.symm
          subst e1
          subst e2
          refine z_ifb_ne 33 31 dX10_soon_28 (by decide) rfl (fun h28 => ?_) (fun h28 => ?_)
          · exact absurd ⟨h5, h13, h20, h28⟩ hA
          · refine z_iconst 32 (v := (-1)) dX10_soon_31 rfl rfl ?_
            refine z_ri dX10_soon_32 rfl ?_
            exact qm0 (if_pos hA) hX Fr.rf
  have e0 : spSoon S p w r c = _ := if_neg hA
  have hA := Classical.not_not.mp hA
  have hA' := hA
  obtain ⟨a1, a2, a3, a4⟩ := hA
  obtain ⟨p, hp, rfl⟩ := inN_of a1
  obtain ⟨w, hw, rfl⟩ := inN_of a2
  obtain ⟨r, hr, rfl⟩ := inN_of a3
  obtain ⟨c, hc, rfl⟩ := inN_of a4
  obtain ⟨b1, b2, b3, b4⟩ := hA'
  rw [zx_nI (by omega), zx_nI (by omega), zx_nI (by omega), zx_nI (by omega)] at e0
  have hS : mSh σ 104 105 r 40 (sR S r) := hX.1 r hr
  have hpl := sDf_lt (sR S r)
  refine Ret.of [some (zr E 102), some (.int (nI p)), some (.int (nI w)), some (.int (nI r)), some (.int (nI c)), none, none, none] (by decide +kernel) (Nat.le_of_ble_eq_true rfl) rfl ?_
  by_cases hD : sDf (sR S r) = 0
  · rw [if_neg (fun z => z hD)] at e0
    obtain ⟨q, hq, hpt, hqg⟩ := sDf0 hD
    have hsz : sSz (sR S r) = q.1 := by rw [hq]; rfl
    rw [hsz] at e0
    have hS' : mSh σ 104 105 r 40 (some q) := by rw [← hq]; exact hS
    have hrs : pset (gOf (sR S r)) q.1 = rSet (sR S r) := by unfold rSet; rw [hsz]
    have hsl : rSet (sR S r) < 1024 := by rw [← hrs]; exact pset_lt _ 10 _ (fun i hi => (hpt.2.2 i hi).1)
    have hpn : pop (rSet (sR S r)) = q.1 := by rw [← hrs]; exact pop_psetn hpt.2.2
    have n1 := hpt.1
    have n6 := hpt.2.1
    have hf : Fr (fun a j => a = 102 ∧ j = 34) σ (si σ 102 34 (nI (q.1 + 1))) := Fr.rf.si _ ⟨rfl, rfl⟩
    have hX1 : RM S (si σ 102 34 (nI (q.1 + 1))) := hX.scr hW (hf.mono (by unfold mS; intros; omega))
    have hS1 : mSh (si σ 102 34 (nI (q.1 + 1))) 104 105 r 40 (some q) := by rw [← hq]; exact hX1.1 r hr
    have hwa := tX10_watch (E := E) hW hp hw n6 q.1 (d + 6 - q.1) [] (q.1 + 1, []) (rSet (sR S r)) (si σ 102 34 (nI (q.1 + 1))) hX1 (Nat.zero_add _) (fun x hx => absurd hx (Nat.not_lt_zero x)) hsl (fun c _ => rfl) (fun x hx => absurd hx (Nat.not_lt_zero x)) ⟨Nat.le_refl _, gi_s1 _ _ _ _, fun z => absurd (Nat.lt_succ_self _) z⟩
    have hen : (enP q.1 (rSet (sR S r)) []).foldl (stP S p w q.1) (q.1 + 1, []) = soA S p w (rSet (sR S r)) q.1 := by
      unfold soA soL
      rw [← hpn]
      have h := enP_map hsl (pop (rSet (sR S r))) [] (rSet (sR S r)) (fun x hx => absurd hx (Nat.not_lt_zero x)) (fun c _ => by show _ = (_ && !false); rw [Bool.not_false, Bool.and_true])
      rw [← h]
      rfl
    rw [hen, show d + 6 - q.1 + 7 + q.1 = d + 13 by omega] at hwa
    have fill : ¬ q.1 < (soA S p w (rSet (sR S r)) q.1).1 → ∀ i, i ≤ q.1 → ∀ τ0 τ, Fr mS σ τ0 → RM S τ0 → mWac τ0 q.1 (soA S p w (rSet (sR S r)) q.1) → Fr (fun x y => x = 104 ∧ y = c ∨ x = 105 ∧ 40 * c ≤ y ∧ y < 40 * c + 40) τ0 τ → gi τ 104 c = nI q.1 → (∀ k, k < i → gi τ 105 (40 * c + k) = nI (fnL (soA S p w (rSet (sR S r)) q.1).2 k)) → At E mX10_soon (d + 14) (qM σ (spSoon S (nI p) (nI w) (nI r) (nI c))) 102 [some (zr E 102), some (.int (nI p)), some (.int (nI w)), some (.int (nI r)), some (.int (nI c)), some (.int (nI 0)), some (.int (nI q.1)), some (.int (nI i))] [] τ := by
      intro hz
      rw [show soO S c q.1 (soA S p w (rSet (sR S r)) q.1) = _ from if_neg hz] at e0
      refine z_up (fun i hi ih τ0 τ hF0 hR0 hacc hF hs hv => ?_)
      have hacc1 := hacc.fr hF (by omega) (by intros; omega)
      by_cases hie : i = q.1
      · rw [hie] at hv ⊢
        have hX5 : RM (setR S c (some (q.1, fun x => nI (fnL (soA S p w (rSet (sR S r)) q.1).2 x)))) τ := hR0.R hW hF hc ⟨by show q.1 ≤ 40; omega, hs, hv⟩
        refine z_iload 104 dX10_soon_102 rfl rfl ?_
        refine z_iload 106 dX10_soon_104 rfl rfl ?_
        refine z_icmp_ge 130 109 dX10_soon_106 (by decide) rfl (fun h106 => ?_) (fun h106 => ?_)
        · (try rw [nI_leI (by omega) (by omega)] at h106)
          refine z_aload_n 131 dX10_soon_130 rfl rfl ?_
          refine gX10_291 134 rfl dX10_soon_131 rfl ?_
          rw [hacc1.2.1]
          refine z_ri dX10_soon_134 rfl ?_
          exact qm0 e0 hX5 ((hF0.mono mS_all).tr hF (fun _ _ h => h) (by intros; omega))
        · (try rw [nI_leI (by omega) (by omega)] at h106)
          omega
      · have hb1 : gi τ 123 i = nI (fnL (soA S p w (rSet (sR S r)) q.1).2 i) := hacc1.2.2 hz i (by omega)
        refine z_iload 104 dX10_soon_102 rfl rfl ?_
        refine z_iload 106 dX10_soon_104 rfl rfl ?_
        refine z_icmp_ge 130 109 dX10_soon_106 (by decide) rfl (fun h106 => ?_) (fun h106 => ?_)
        · (try rw [nI_leI (by omega) (by omega)] at h106)
          omega
        · (try rw [nI_leI (by omega) (by omega)] at h106)
          refine z_aload_n 110 dX10_soon_109 rfl rfl ?_
          refine z_iload 112 dX10_soon_110 rfl rfl ?_
          refine z_iload 114 dX10_soon_112 rfl rfl ?_
          refine z_aload_n 115 dX10_soon_114 rfl rfl ?_
          refine gX10_75 118 rfl dX10_soon_115 rfl ?_
          refine z_iload 120 dX10_soon_118 rfl rfl ?_
          refine z_ialdn 121 dX10_soon_120 rfl (by first | assumption | rfl) (by omega) ?_
          rw [hb1]
          refine z_cVV3 124 (tX10_setRow (by omega) (by omega)) kX10_setRow dX10_soon_121 rfl lX10_106 (by first | assumption | rfl) (Nat.le_of_ble_eq_true rfl) ?_
          rintro _ e2
          replace e2 := e2.symm
          subst e2
          refine zs_iinc_7_8_1 127 rfl dX10_soon_124 rfl rfl ?_
          rw [nI_add]
          refine z_goto 102 dX10_soon_127 rfl ?_
          exact ih (i + 1) (by omega) (by omega) τ0 _ hF0 hR0 hacc (hF.si _ (by omega)) ((gi_s2 _ _ (by omega)).trans hs) (fun k hk => by
            rw [gi_si]
            by_cases hki : k = i
            · rw [if_pos ⟨rfl, by omega⟩, hki]
            · rw [if_neg (by omega)]; exact hv k (by omega))
    refine z_aload_n 1 dX10_soon_0 rfl rfl ?_
    refine z_iload_n 2 dX10_soon_1 rfl rfl ?_
    refine z_cVI1 5 (tX10_isPlayer (by assumption) (by assumption)) kX10_isPlayer dX10_soon_2 rfl lX10_162 (by first | assumption | rfl) (Nat.le_of_ble_eq_true rfl) ?_
    rintro _ _ ⟨e1, e2⟩
    replace e1 := e1.symm
    replace e2 := e2.symm
    subst e1
    subst e2
    refine z_ifb_eq 31 8 dX10_soon_5 (by decide) rfl (fun h5 => ?_) (fun h5 => ?_)
    · exact absurd b1 h5
    · refine z_aload_n 9 dX10_soon_8 rfl rfl ?_
      refine z_iload_n 10 dX10_soon_9 rfl rfl ?_
      refine z_cVI1 13 (tX10_isWord (by assumption) (by assumption)) kX10_isWord dX10_soon_10 rfl lX10_151 (by first | assumption | rfl) (Nat.le_of_ble_eq_true rfl) ?_
      rintro _ _ ⟨e1, e2⟩
      replace e1 := e1.symm
      replace e2 := e2.symm
      subst e1
      subst e2
      refine z_ifb_eq 31 16 dX10_soon_13 (by decide) rfl (fun h13 => ?_) (fun h13 => ?_)
      · exact absurd b2 h13
      · refine z_iload_n 17 dX10_soon_16 rfl rfl ?_
        refine z_cSI1 20 (tX10_isRow) kX10_isRow dX10_soon_17 rfl lX10_95 (Nat.le_of_ble_eq_true rfl) ?_
        rintro _ _ ⟨e1, e2⟩
        replace e1 := e1.symm
        replace e2 := e2.symm
        subst e1
        subst e2
        refine z_ifb_eq 31 23 dX10_soon_20 (by decide) rfl (fun h20 => ?_) (fun h20 => ?_)
        · exact absurd b3 h20
        · refine z_iload 25 dX10_soon_23 rfl rfl ?_
          refine z_cSI1 28 (tX10_isRow) kX10_isRow dX10_soon_25 rfl lX10_95 (Nat.le_of_ble_eq_true rfl) ?_
          rintro _ _ ⟨e1, e2⟩
          replace e1 := e1.symm
          replace e2 := e2.symm
          subst e1
          subst e2
          refine z_ifb_ne 33 31 dX10_soon_28 (by decide) rfl (fun h28 => ?_) (fun h28 => ?_)
          · refine z_aload_n 34 dX10_soon_33 rfl rfl ?_
            refine z_iload_n 35 dX10_soon_34 rfl rfl ?_
            refine z_cVI1 38 (tX10_askedDrawn hr hX) kX10_askedDrawn dX10_soon_35 rfl lX10_212 (by first | assumption | rfl) (Nat.le_of_ble_eq_true rfl) ?_
            rintro _ _ ⟨e1, e2⟩
            rw [if_pos hD] at e1 e2
            replace e1 := e1.symm
            replace e2 := e2.symm
            subst e1
            subst e2
            refine zs_istore_5_8 40 rfl dX10_soon_38 rfl rfl ?_
            refine z_iload 42 dX10_soon_40 rfl rfl ?_
            refine z_if_ge 48 45 dX10_soon_42 (by decide) rfl (fun h42 => ?_) (fun h42 => ?_)
            · refine z_aload_n 49 dX10_soon_48 rfl rfl ?_
              refine gX10_17 52 rfl dX10_soon_49 rfl ?_
              refine z_iload_n 53 dX10_soon_52 rfl rfl ?_
              refine z_ialdn 54 dX10_soon_53 rfl (by first | assumption | rfl) (by omega) ?_
              rw [hS'.2.1]
              refine zs_istore_6_8 56 rfl dX10_soon_54 rfl rfl ?_
              refine z_aload_n 57 dX10_soon_56 rfl rfl ?_
              refine z_iload 59 dX10_soon_57 rfl rfl ?_
              refine z_iconst 60 (v := nI 1) dX10_soon_59 rfl rfl ?_
              refine z_iadd 61 dX10_soon_60 rfl ?_
              rw [nI_add]
              refine pX10_291 64 rfl dX10_soon_61 rfl ?_
              refine z_aload_n 65 dX10_soon_64 rfl rfl ?_
              refine z_iload_n 66 dX10_soon_65 rfl rfl ?_
              refine z_iload_n 67 dX10_soon_66 rfl rfl ?_
              refine z_aload_n 68 dX10_soon_67 rfl rfl ?_
              refine z_iload_n 69 dX10_soon_68 rfl rfl ?_
              refine z_cVI1 72 (tX10_rowSet (g := gOf (sR S r)) hr hS1 (fun i hi => ⟨hqg i hi, (hpt.2.2 i hi).1⟩)) kX10_rowSet dX10_soon_69 rfl lX10_297 (by first | assumption | rfl) (Nat.le_of_ble_eq_true rfl) ?_
              rintro _ _ ⟨e1, e2⟩
              replace e1 := e1.symm
              replace e2 := e2.symm
              subst e1
              subst e2
              rw [hrs]
              refine z_iconst 73 (v := nI 0) dX10_soon_72 rfl rfl ?_
              refine z_iload 75 dX10_soon_73 rfl rfl ?_
              refine z_cVV5 78 (hwa) kX10_watch dX10_soon_75 rfl lX10_294 (by first | assumption | rfl) (Nat.le_of_ble_eq_true rfl) ?_
              rintro τ1 ⟨hF1, hX2, hacc1, _⟩
              have hF2 : Fr mS σ τ1 := (hf.mono (by unfold mS; intros; omega)).tr hF1 (fun _ _ h => h) (by unfold mS; intros; omega)
              have hA1 := hacc1.1
              refine z_aload_n 79 dX10_soon_78 rfl rfl ?_
              refine gX10_291 82 rfl dX10_soon_79 rfl ?_
              rw [hacc1.2.1]
              refine z_iload 84 dX10_soon_82 rfl rfl ?_
              refine z_icmp_le 90 87 dX10_soon_84 (by decide) rfl (fun h84 => ?_) (fun h84 => ?_)
              · (try rw [nI_leI (by omega) (by omega)] at h84)
                refine z_aload_n 91 dX10_soon_90 rfl rfl ?_
                refine z_iload 93 dX10_soon_91 rfl rfl ?_
                refine z_iload 95 dX10_soon_93 rfl rfl ?_
                refine z_cVI2 98 (tX10_row0 hc (by omega)) kX10_row dX10_soon_95 rfl lX10_206 (by first | assumption | rfl) (Nat.le_of_ble_eq_true rfl) ?_
                rintro _ τ2 ⟨e2, hF3, hS3⟩
                subst e2
                refine z_pop 99 dX10_soon_98 rfl rfl ?_
                refine z_iconst 100 (v := nI 0) dX10_soon_99 rfl rfl ?_
                refine zs_istore_7_8 102 rfl dX10_soon_100 rfl rfl ?_
                exact fill (by omega) 0 (Nat.zero_le _) τ1 τ2 hF2 hX2 hacc1 hF3 hS3.2.1 (fun k hk => absurd hk (Nat.not_lt_zero k))
              · (try rw [nI_leI (by omega) (by omega)] at h84)
                have hz : q.1 < (soA S p w (rSet (sR S r)) q.1).1 := by omega
                rw [show soO S c q.1 (soA S p w (rSet (sR S r)) q.1) = _ from if_pos hz] at e0
                refine z_bipush 89 (v := (-9)) dX10_soon_87 rfl rfl ?_
                refine z_ri dX10_soon_89 rfl ?_
                exact qm0 e0 hX2 (hF2.mono mS_all)
            · exact absurd (nI_pos' (by decide)) h42
          · exact absurd b4 h28
  · rw [if_pos hD] at e0
    refine z_aload_n 1 dX10_soon_0 rfl rfl ?_
    refine z_iload_n 2 dX10_soon_1 rfl rfl ?_
    refine z_cVI1 5 (tX10_isPlayer (by assumption) (by assumption)) kX10_isPlayer dX10_soon_2 rfl lX10_162 (by first | assumption | rfl) (Nat.le_of_ble_eq_true rfl) ?_
    rintro _ _ ⟨e1, e2⟩
    replace e1 := e1.symm
    replace e2 := e2.symm
    subst e1
    subst e2
    refine z_ifb_eq 31 8 dX10_soon_5 (by decide) rfl (fun h5 => ?_) (fun h5 => ?_)
    · exact absurd b1 h5
    · refine z_aload_n 9 dX10_soon_8 rfl rfl ?_
      refine z_iload_n 10 dX10_soon_9 rfl rfl ?_
      refine z_cVI1 13 (tX10_isWord (by assumption) (by assumption)) kX10_isWord dX10_soon_10 rfl lX10_151 (by first | assumption | rfl) (Nat.le_of_ble_eq_true rfl) ?_
      rintro _ _ ⟨e1, e2⟩
      replace e1 := e1.symm
      replace e2 := e2.symm
      subst e1
      subst e2
      refine z_ifb_eq 31 16 dX10_soon_13 (by decide) rfl (fun h13 => ?_) (fun h13 => ?_)
      · exact absurd b2 h13
      · refine z_iload_n 17 dX10_soon_16 rfl rfl ?_
        refine z_cSI1 20 (tX10_isRow) kX10_isRow dX10_soon_17 rfl lX10_95 (Nat.le_of_ble_eq_true rfl) ?_
        rintro _ _ ⟨e1, e2⟩
        replace e1 := e1.symm
        replace e2 := e2.symm
        subst e1
        subst e2
        refine z_ifb_eq 31 23 dX10_soon_20 (by decide) rfl (fun h20 => ?_) (fun h20 => ?_)
        · exact absurd b3 h20
        · refine z_iload 25 dX10_soon_23 rfl rfl ?_
          refine z_cSI1 28 (tX10_isRow) kX10_isRow dX10_soon_25 rfl lX10_95 (Nat.le_of_ble_eq_true rfl) ?_
          rintro _ _ ⟨e1, e2⟩
          replace e1 := e1.symm
          replace e2 := e2.symm
          subst e1
          subst e2
          refine z_ifb_ne 33 31 dX10_soon_28 (by decide) rfl (fun h28 => ?_) (fun h28 => ?_)
          · refine z_aload_n 34 dX10_soon_33 rfl rfl ?_
            refine z_iload_n 35 dX10_soon_34 rfl rfl ?_
            refine z_cVI1 38 (tX10_askedDrawn hr hX) kX10_askedDrawn dX10_soon_35 rfl lX10_212 (by first | assumption | rfl) (Nat.le_of_ble_eq_true rfl) ?_
            rintro _ _ ⟨e1, e2⟩
            rw [if_neg hD] at e1 e2
            replace e1 := e1.symm
            replace e2 := e2.symm
            subst e1
            subst e2
            refine zs_istore_5_8 40 rfl dX10_soon_38 rfl rfl ?_
            refine z_iload 42 dX10_soon_40 rfl rfl ?_
            refine z_if_ge 48 45 dX10_soon_42 (by decide) rfl (fun h42 => ?_) (fun h42 => ?_)
            · (try rw [nI_ge0 (by omega)] at h42)
              exact absurd h42 (by decide)
            · (try rw [nI_ge0 (by omega)] at h42)
              refine z_iload 47 dX10_soon_45 rfl rfl ?_
              refine z_ri dX10_soon_47 rfl ?_
              exact qmf hW e0 hpl hX Fr.rf
          · exact absurd b4 h28
