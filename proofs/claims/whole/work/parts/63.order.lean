/-! the next order -/
theorem nI_mns (k : Nat) : nI k + (-1) = nI k - nI 1 := by rw [Int32.sub_eq_add_neg]; rfl
theorem nI_dec {k : Nat} (h : 1 ≤ k) : nI k + (-1) = nI (k - 1) := by rw [nI_mns, nI_sub h]
def sw (f : Nat → Nat) (i j : Nat) : Nat → Nat := fun x => if x = j then f i else if x = i then f j else f x
def dsc (f : Nat → Nat) (lo : Nat) : Nat → Option Nat
  | 0 => none
  | k + 1 => if k < lo then none else if f (k + 1) ≤ f k then dsc f lo k else some k
def gtr (f : Nat → Nat) (i : Nat) : Nat → Nat
  | 0 => 0
  | j + 1 => if i < j + 1 ∧ f (j + 1) ≤ f i then gtr f i j else j + 1
def rv : Nat → (Nat → Nat) → Nat → Nat → (Nat → Nat)
  | 0, f, _, _ => f
  | k + 1, f, lo, hi => if lo < hi then rv k (sw f lo hi) (lo + 1) (hi - 1) else f
def nxtO (f : Nat → Nat) (n : Nat) (o : Option Nat) : Option (Nat → Nat) := match o with
  | none => none
  | some i => some (rv n (sw f i (gtr f i (n - 1))) (i + 1) (n - 1))
def nxt (f : Nat → Nat) (lo n : Nat) : Option (Nat → Nat) := nxtO f n (dsc f lo (n - 1))
theorem dsc_bd {f : Nat → Nat} {lo : Nat} : ∀ k i, dsc f lo k = some i → lo ≤ i ∧ i < k := by
  intro k
  induction k with
  | zero => intro i h; exact absurd h (fun z => nomatch z)
  | succ k ih =>
    intro i h
    rw [dsc] at h
    by_cases h1 : k < lo
    · rw [if_pos h1] at h
      exact absurd h (fun z => nomatch z)
    · rw [if_neg h1] at h
      by_cases h2 : f (k + 1) ≤ f k
      · rw [if_pos h2] at h
        have := ih i h
        omega
      · rw [if_neg h2] at h
        have : k = i := Option.some.inj h
        omega
theorem gtr_le (f : Nat → Nat) (i : Nat) : ∀ j, gtr f i j ≤ j := by
  intro j
  induction j with
  | zero => exact Nat.le_refl _
  | succ j ih =>
    rw [gtr]
    split
    · omega
    · exact Nat.le_refl _
set_option maxRecDepth 20000 in
theorem tX9_swap {E : zE} {d : Nat} {σ : zM} {a cap i j n : Nat} {f : Nat → Nat} (hk : kd a = (11, cap)) (hn : n ≤ cap) (hi : i < n) (hj : j < n) (hf : ∀ x, x < n → gi σ a x = nI (f x)) : Ret E mX9_swap d [zr E a, .int (nI i), .int (nI j)] σ (qV fun τ => Fr (fun x _ => x = a) σ τ ∧ ∀ x, x < n → gi τ a x = nI (sw f i j x)) := by
  refine Ret.of [some (zr E a), some (.int (nI i)), some (.int (nI j)), none] (by decide +kernel) (Nat.le_of_ble_eq_true rfl) rfl ?_
  refine z_aload_n 1 dX9_swap_0 rfl rfl ?_
  refine z_iload_n 2 dX9_swap_1 rfl rfl ?_
  refine z_ialdn 3 dX9_swap_2 rfl (by first | assumption | rfl) (by omega) ?_
  rw [hf i hi]
  refine zs_istore_n_3_4 4 rfl dX9_swap_3 rfl rfl ?_
  refine z_aload_n 5 dX9_swap_4 rfl rfl ?_
  refine z_iload_n 6 dX9_swap_5 rfl rfl ?_
  refine z_aload_n 7 dX9_swap_6 rfl rfl ?_
  refine z_iload_n 8 dX9_swap_7 rfl rfl ?_
  refine z_ialdn 9 dX9_swap_8 rfl (by first | assumption | rfl) (by omega) ?_
  rw [hf j hj]
  refine z_iastn 10 dX9_swap_9 rfl (by first | assumption | rfl) (by omega) ?_
  refine z_aload_n 11 dX9_swap_10 rfl rfl ?_
  refine z_iload_n 12 dX9_swap_11 rfl rfl ?_
  refine z_iload_n 13 dX9_swap_12 rfl rfl ?_
  refine z_iastn 14 dX9_swap_13 rfl (by first | assumption | rfl) (by omega) ?_
  refine z_rv dX9_swap_14 rfl ?_
  refine ⟨((Fr.rf (P := fun x _ => x = a) (σ := σ)).si _ rfl).si _ rfl, fun x hx => ?_⟩
  unfold sw
  rw [gi_si, gi_si]
  by_cases h1 : x = j
  · rw [if_pos ⟨rfl, h1⟩, if_pos h1]
  · rw [if_neg (fun z => h1 z.2), if_neg h1]
    by_cases h2 : x = i
    · rw [if_pos ⟨rfl, h2⟩, if_pos h2]
    · rw [if_neg (fun z => h2 z.2), if_neg h2]; exact hf x hx
set_option maxRecDepth 20000 in
theorem tX9_nextOrder {E : zE} {d : Nat} {σ : zM} {a cap lo n : Nat} {f : Nat → Nat} (hk : kd a = (11, cap)) (hc : cap ≤ 8) (hn : n ≤ cap) (hn1 : 1 ≤ n) (hlo : lo < 8) (hf : ∀ x, x < n → gi σ a x = nI (f x)) (hb : ∀ x, x < n → f x < 100) : Ret E mX9_nextOrder (d + 1) [zr E a, .int (nI lo), .int (nI n)] σ (qI fun x τ => (nxt f lo n = none ∧ x = nI 0 ∧ τ = σ) ∨ ∃ g, nxt f lo n = some g ∧ x = nI 1 ∧ Fr (fun x _ => x = a) σ τ ∧ ∀ x, x < n → gi τ a x = nI (g x)) := by
  refine Ret.of [some (zr E a), some (.int (nI lo)), some (.int (nI n)), none, none, none, none] (by decide +kernel) (Nat.le_of_ble_eq_true rfl) rfl ?_
  have rev : ∀ k g lw hw τ, lw < 16 → hw < n → hw ≤ lw + k → Fr (fun x _ => x = a) σ τ → (∀ x, x < n → gi τ a x = nI (g x)) → nxt f lo n = some (rv k g lw hw) → ∀ y3 (y4 : Int32), At E mX9_nextOrder (d + 1) (qI fun x τ => (nxt f lo n = none ∧ x = nI 0 ∧ τ = σ) ∨ ∃ g, nxt f lo n = some g ∧ x = nI 1 ∧ Fr (fun x _ => x = a) σ τ ∧ ∀ x, x < n → gi τ a x = nI (g x)) 89 [some (zr E a), some (.int (nI lo)), some (.int (nI n)), y3, some (.int y4), some (.int (nI lw)), some (.int (nI hw))] [] τ := by
    intro k
    induction k with
    | zero =>
      intro g lw hw τ hl hh hlh hF hg he y3 y4
      refine z_iload 91 dX9_nextOrder_89 rfl rfl ?_
      refine z_iload 93 dX9_nextOrder_91 rfl rfl ?_
      refine z_icmp_ge 113 96 dX9_nextOrder_93 (by decide) rfl (fun h93 => ?_) (fun h93 => ?_)
      · (try rw [nI_leI (by omega) (by omega)] at h93)
        refine z_iconst 114 (v := nI 1) dX9_nextOrder_113 rfl rfl ?_
        refine z_rz dX9_nextOrder_114 rfl (by first | exact Or.inl rfl | exact Or.inr rfl | exact bI_01 _ | assumption) ?_
        exact Or.inr ⟨_, he, rfl, hF, hg⟩
      · (try rw [nI_leI (by omega) (by omega)] at h93)
        omega
    | succ k ih =>
      intro g lw hw τ hl hh hlh hF hg he y3 y4
      rw [rv] at he
      refine z_iload 91 dX9_nextOrder_89 rfl rfl ?_
      refine z_iload 93 dX9_nextOrder_91 rfl rfl ?_
      refine z_icmp_ge 113 96 dX9_nextOrder_93 (by decide) rfl (fun h93 => ?_) (fun h93 => ?_)
      · (try rw [nI_leI (by omega) (by omega)] at h93)
        rw [if_neg (by omega)] at he
        refine z_iconst 114 (v := nI 1) dX9_nextOrder_113 rfl rfl ?_
        refine z_rz dX9_nextOrder_114 rfl (by first | exact Or.inl rfl | exact Or.inr rfl | exact bI_01 _ | assumption) ?_
        exact Or.inr ⟨_, he, rfl, hF, hg⟩
      · (try rw [nI_leI (by omega) (by omega)] at h93)
        rw [if_pos (by omega)] at he
        refine z_aload_n 97 dX9_nextOrder_96 rfl rfl ?_
        refine z_iload 99 dX9_nextOrder_97 rfl rfl ?_
        refine z_iload 101 dX9_nextOrder_99 rfl rfl ?_
        refine z_cSV3 104 (tX9_swap hk hn (show lw < n by omega) hh hg) kX9_swap dX9_nextOrder_101 rfl lX9_450 (Nat.le_of_ble_eq_true rfl) ?_
        rintro τ1 ⟨hF1, hg1⟩
        refine zs_iinc_5_7_1 107 rfl dX9_nextOrder_104 rfl rfl ?_
        rw [nI_add]
        refine zs_iinc_6_7_m1 110 rfl dX9_nextOrder_107 rfl rfl ?_
        rw [nI_dec (show 1 ≤ hw by omega)]
        refine z_goto 89 dX9_nextOrder_110 rfl ?_
        exact ih _ (lw + 1) (hw - 1) τ1 (by omega) (by omega) (by omega) (hF.tr hF1 (fun _ _ h => h) (fun _ _ h => h)) hg1 he y3 y4
  have fndJ : ∀ i, i < n - 1 → dsc f lo (n - 1) = some i → ∀ j, j < n → i ≤ j → gtr f i (n - 1) = gtr f i j → At E mX9_nextOrder (d + 1) (qI fun x τ => (nxt f lo n = none ∧ x = nI 0 ∧ τ = σ) ∨ ∃ g, nxt f lo n = some g ∧ x = nI 1 ∧ Fr (fun x _ => x = a) σ τ ∧ ∀ x, x < n → gi τ a x = nI (g x)) 50 [some (zr E a), some (.int (nI lo)), some (.int (nI n)), some (.int (nI i)), some (.int (nI j)), none, none] [] σ := by
    intro i hi hd j
    have hbi := hb i (by omega)
    induction j with
    | zero =>
      intro hj hij hg
      have h0 : i = 0 := by omega
      have he : nxt f lo n = some (rv n (sw f i 0) (i + 1) (n - 1)) := by
        unfold nxt
        rw [hd]
        show some (rv n (sw f i (gtr f i (n - 1))) (i + 1) (n - 1)) = _
        rw [hg]
        rfl
      refine z_iload 52 dX9_nextOrder_50 rfl rfl ?_
      refine z_iload_n 53 dX9_nextOrder_52 rfl rfl ?_
      refine z_icmp_le 72 56 dX9_nextOrder_53 (by decide) rfl (fun h53 => ?_) (fun h53 => ?_)
      · (try rw [nI_leI (by omega) (by omega)] at h53)
        refine z_aload_n 73 dX9_nextOrder_72 rfl rfl ?_
        refine z_iload_n 74 dX9_nextOrder_73 rfl rfl ?_
        refine z_iload 76 dX9_nextOrder_74 rfl rfl ?_
        refine z_cSV3 79 (tX9_swap hk hn (show i < n by omega) (show 0 < n by omega) hf) kX9_swap dX9_nextOrder_76 rfl lX9_450 (Nat.le_of_ble_eq_true rfl) ?_
        rintro τ1 ⟨hF1, hg1⟩
        refine z_iload_n 80 dX9_nextOrder_79 rfl rfl ?_
        refine z_iconst 81 (v := nI 1) dX9_nextOrder_80 rfl rfl ?_
        refine z_iadd 82 dX9_nextOrder_81 rfl ?_
        rw [nI_add]
        refine zs_istore_5_7 84 rfl dX9_nextOrder_82 rfl rfl ?_
        refine z_iload_n 85 dX9_nextOrder_84 rfl rfl ?_
        refine z_iconst 86 (v := nI 1) dX9_nextOrder_85 rfl rfl ?_
        refine z_isub 87 dX9_nextOrder_86 rfl ?_
        rw [nI_sub (by omega)]
        refine zs_istore_6_7 89 rfl dX9_nextOrder_87 rfl rfl ?_
        exact rev n _ (i + 1) (n - 1) τ1 (by omega) (by omega) (by omega) hF1 hg1 he _ _
      · (try rw [nI_leI (by omega) (by omega)] at h53)
        omega
    | succ j ih =>
      intro hj hij hg
      have hbj := hb (j + 1) hj
      have he : gtr f i (j + 1) = j + 1 → nxt f lo n = some (rv n (sw f i (j + 1)) (i + 1) (n - 1)) := by
        intro e
        unfold nxt
        rw [hd]
        show some (rv n (sw f i (gtr f i (n - 1))) (i + 1) (n - 1)) = _
        rw [hg, e]
      refine z_iload 52 dX9_nextOrder_50 rfl rfl ?_
      refine z_iload_n 53 dX9_nextOrder_52 rfl rfl ?_
      refine z_icmp_le 72 56 dX9_nextOrder_53 (by decide) rfl (fun h53 => ?_) (fun h53 => ?_)
      · (try rw [nI_leI (by omega) (by omega)] at h53)
        have e1 := he (if_neg (fun z => by have := z.1; omega))
        refine z_aload_n 73 dX9_nextOrder_72 rfl rfl ?_
        refine z_iload_n 74 dX9_nextOrder_73 rfl rfl ?_
        refine z_iload 76 dX9_nextOrder_74 rfl rfl ?_
        refine z_cSV3 79 (tX9_swap hk hn (show i < n by omega) hj hf) kX9_swap dX9_nextOrder_76 rfl lX9_450 (Nat.le_of_ble_eq_true rfl) ?_
        rintro τ1 ⟨hF1, hg1⟩
        refine z_iload_n 80 dX9_nextOrder_79 rfl rfl ?_
        refine z_iconst 81 (v := nI 1) dX9_nextOrder_80 rfl rfl ?_
        refine z_iadd 82 dX9_nextOrder_81 rfl ?_
        rw [nI_add]
        refine zs_istore_5_7 84 rfl dX9_nextOrder_82 rfl rfl ?_
        refine z_iload_n 85 dX9_nextOrder_84 rfl rfl ?_
        refine z_iconst 86 (v := nI 1) dX9_nextOrder_85 rfl rfl ?_
        refine z_isub 87 dX9_nextOrder_86 rfl ?_
        rw [nI_sub (by omega)]
        refine zs_istore_6_7 89 rfl dX9_nextOrder_87 rfl rfl ?_
        exact rev n _ (i + 1) (n - 1) τ1 (by omega) (by omega) (by omega) hF1 hg1 e1 _ _
      · (try rw [nI_leI (by omega) (by omega)] at h53)
        refine z_aload_n 57 dX9_nextOrder_56 rfl rfl ?_
        refine z_iload 59 dX9_nextOrder_57 rfl rfl ?_
        refine z_ialdn 60 dX9_nextOrder_59 rfl (by first | assumption | rfl) (by omega) ?_
        rw [hf (j + 1) hj]
        refine z_aload_n 61 dX9_nextOrder_60 rfl rfl ?_
        refine z_iload_n 62 dX9_nextOrder_61 rfl rfl ?_
        refine z_ialdn 63 dX9_nextOrder_62 rfl (by first | assumption | rfl) (by omega) ?_
        rw [hf i (by omega)]
        refine z_icmp_gt 72 66 dX9_nextOrder_63 (by decide) rfl (fun h63 => ?_) (fun h63 => ?_)
        · (try rw [nI_ltI (by omega) (by omega)] at h63)
          have e1 := he (if_neg (fun z => by have := z.2; omega))
          refine z_aload_n 73 dX9_nextOrder_72 rfl rfl ?_
          refine z_iload_n 74 dX9_nextOrder_73 rfl rfl ?_
          refine z_iload 76 dX9_nextOrder_74 rfl rfl ?_
          refine z_cSV3 79 (tX9_swap hk hn (show i < n by omega) hj hf) kX9_swap dX9_nextOrder_76 rfl lX9_450 (Nat.le_of_ble_eq_true rfl) ?_
          rintro τ1 ⟨hF1, hg1⟩
          refine z_iload_n 80 dX9_nextOrder_79 rfl rfl ?_
          refine z_iconst 81 (v := nI 1) dX9_nextOrder_80 rfl rfl ?_
          refine z_iadd 82 dX9_nextOrder_81 rfl ?_
          rw [nI_add]
          refine zs_istore_5_7 84 rfl dX9_nextOrder_82 rfl rfl ?_
          refine z_iload_n 85 dX9_nextOrder_84 rfl rfl ?_
          refine z_iconst 86 (v := nI 1) dX9_nextOrder_85 rfl rfl ?_
          refine z_isub 87 dX9_nextOrder_86 rfl ?_
          rw [nI_sub (by omega)]
          refine zs_istore_6_7 89 rfl dX9_nextOrder_87 rfl rfl ?_
          exact rev n _ (i + 1) (n - 1) τ1 (by omega) (by omega) (by omega) hF1 hg1 e1 _ _
        · (try rw [nI_ltI (by omega) (by omega)] at h63)
          refine zs_iinc_4_7_m1 69 rfl dX9_nextOrder_66 rfl rfl ?_
          rw [nI_dec (show 1 ≤ j + 1 by omega), Nat.add_sub_cancel]
          refine z_goto 50 dX9_nextOrder_69 rfl ?_
          exact ih (by omega) (by omega) (hg.trans (if_pos ⟨by omega, by omega⟩))
  have fndI : ∀ k, k < n → dsc f lo (n - 1) = dsc f lo k → At E mX9_nextOrder (d + 1) (qI fun x τ => (nxt f lo n = none ∧ x = nI 0 ∧ τ = σ) ∨ ∃ g, nxt f lo n = some g ∧ x = nI 1 ∧ Fr (fun x _ => x = a) σ τ ∧ ∀ x, x < n → gi τ a x = nI (g x)) 16 [some (zr E a), some (.int (nI lo)), some (.int (nI n)), some (.int (nI k - nI 1)), none, none, none] [] σ := by
    intro k
    induction k with
    | zero =>
      intro hk0 hd
      have he : nxt f lo n = none := by
        unfold nxt
        rw [hd]
        rfl
      have hneg : nI 0 - nI 1 < nI lo := by
        have h0 : (0 : Int32) ≤ nI lo := nI_pos' (by omega)
        exact Int32.lt_of_lt_of_le (by decide) h0
      refine z_iload_n 17 dX9_nextOrder_16 rfl rfl ?_
      refine z_iload_n 18 dX9_nextOrder_17 rfl rfl ?_
      refine z_icmp_lt 38 21 dX9_nextOrder_18 (by decide) rfl (fun h18 => ?_) (fun h18 => ?_)
      · refine z_iload_n 39 dX9_nextOrder_38 rfl rfl ?_
        refine z_iload_n 40 dX9_nextOrder_39 rfl rfl ?_
        refine z_icmp_ge 45 43 dX9_nextOrder_40 (by decide) rfl (fun h40 => ?_) (fun h40 => ?_)
        · exact absurd (Int32.not_le.mpr hneg) (fun z => z h40)
        · refine z_iconst 44 (v := nI 0) dX9_nextOrder_43 rfl rfl ?_
          refine z_rz dX9_nextOrder_44 rfl (by first | exact Or.inl rfl | exact Or.inr rfl | exact bI_01 _ | assumption) ?_
          exact Or.inl ⟨he, rfl, rfl⟩
      · exact absurd hneg h18
    | succ k ih =>
      intro hkn hd
      have hbk := hb k (by omega)
      have hbk1 := hb (k + 1) hkn
      rw [nI_sub (show 1 ≤ k + 1 by omega), Nat.add_sub_cancel]
      by_cases hlk : k < lo
      · have he : nxt f lo n = none := by
          unfold nxt
          rw [hd, dsc, if_pos hlk]
          rfl
        refine z_iload_n 17 dX9_nextOrder_16 rfl rfl ?_
        refine z_iload_n 18 dX9_nextOrder_17 rfl rfl ?_
        refine z_icmp_lt 38 21 dX9_nextOrder_18 (by decide) rfl (fun h18 => ?_) (fun h18 => ?_)
        · (try rw [nI_ltI (by omega) (by omega)] at h18)
          refine z_iload_n 39 dX9_nextOrder_38 rfl rfl ?_
          refine z_iload_n 40 dX9_nextOrder_39 rfl rfl ?_
          refine z_icmp_ge 45 43 dX9_nextOrder_40 (by decide) rfl (fun h40 => ?_) (fun h40 => ?_)
          · (try rw [nI_leI (by omega) (by omega)] at h40)
            omega
          · (try rw [nI_leI (by omega) (by omega)] at h40)
            refine z_iconst 44 (v := nI 0) dX9_nextOrder_43 rfl rfl ?_
            refine z_rz dX9_nextOrder_44 rfl (by first | exact Or.inl rfl | exact Or.inr rfl | exact bI_01 _ | assumption) ?_
            exact Or.inl ⟨he, rfl, rfl⟩
        · (try rw [nI_ltI (by omega) (by omega)] at h18)
          omega
      · rw [dsc, if_neg hlk] at hd
        refine z_iload_n 17 dX9_nextOrder_16 rfl rfl ?_
        refine z_iload_n 18 dX9_nextOrder_17 rfl rfl ?_
        refine z_icmp_lt 38 21 dX9_nextOrder_18 (by decide) rfl (fun h18 => ?_) (fun h18 => ?_)
        · (try rw [nI_ltI (by omega) (by omega)] at h18)
          omega
        · (try rw [nI_ltI (by omega) (by omega)] at h18)
          refine z_aload_n 22 dX9_nextOrder_21 rfl rfl ?_
          refine z_iload_n 23 dX9_nextOrder_22 rfl rfl ?_
          refine z_ialdn 24 dX9_nextOrder_23 rfl (by first | assumption | rfl) (by omega) ?_
          rw [hf k (by omega)]
          refine z_aload_n 25 dX9_nextOrder_24 rfl rfl ?_
          refine z_iload_n 26 dX9_nextOrder_25 rfl rfl ?_
          refine z_iconst 27 (v := nI 1) dX9_nextOrder_26 rfl rfl ?_
          refine z_iadd 28 dX9_nextOrder_27 rfl ?_
          rw [nI_add]
          refine z_ialdn 29 dX9_nextOrder_28 rfl (by first | assumption | rfl) (by omega) ?_
          rw [hf (k + 1) hkn]
          refine z_icmp_lt 38 32 dX9_nextOrder_29 (by decide) rfl (fun h29 => ?_) (fun h29 => ?_)
          · (try rw [nI_ltI (by omega) (by omega)] at h29)
            rw [if_neg (by omega)] at hd
            refine z_iload_n 39 dX9_nextOrder_38 rfl rfl ?_
            refine z_iload_n 40 dX9_nextOrder_39 rfl rfl ?_
            refine z_icmp_ge 45 43 dX9_nextOrder_40 (by decide) rfl (fun h40 => ?_) (fun h40 => ?_)
            · (try rw [nI_leI (by omega) (by omega)] at h40)
              refine z_iload_n 46 dX9_nextOrder_45 rfl rfl ?_
              refine z_iconst 47 (v := nI 1) dX9_nextOrder_46 rfl rfl ?_
              refine z_isub 48 dX9_nextOrder_47 rfl ?_
              rw [nI_sub (by omega)]
              refine zs_istore_4_7 50 rfl dX9_nextOrder_48 rfl rfl ?_
              exact fndJ k (by omega) hd (n - 1) (by omega) (by omega) rfl
            · (try rw [nI_leI (by omega) (by omega)] at h40)
              omega
          · (try rw [nI_ltI (by omega) (by omega)] at h29)
            rw [if_pos (by omega)] at hd
            refine zs_iinc_3_7_m1 35 rfl dX9_nextOrder_32 rfl rfl ?_
            rw [nI_mns]
            refine z_goto 16 dX9_nextOrder_35 rfl ?_
            exact ih (by omega) hd
  refine z_iload_n 1 dX9_nextOrder_0 rfl rfl ?_
  refine z_if_lt 10 4 dX9_nextOrder_1 (by decide) rfl (fun h1 => ?_) (fun h1 => ?_)
  · (try rw [nI_lt0 (by omega)] at h1)
    exact h1.elim
  · (try rw [nI_lt0 (by omega)] at h1)
    refine z_iload_n 5 dX9_nextOrder_4 rfl rfl ?_
    refine z_aload_n 6 dX9_nextOrder_5 rfl rfl ?_
    refine z_alen 7 dX9_nextOrder_6 rfl (by first | assumption | rfl) ?_
    refine z_icmp_le 12 10 dX9_nextOrder_7 (by decide) rfl (fun h7 => ?_) (fun h7 => ?_)
    · (try rw [nI_leI (by omega) (by omega)] at h7)
      refine z_iload_n 13 dX9_nextOrder_12 rfl rfl ?_
      refine z_iconst 14 (v := nI 2) dX9_nextOrder_13 rfl rfl ?_
      refine z_isub 15 dX9_nextOrder_14 rfl ?_
      rw [show nI n - nI 2 = nI (n - 1) - nI 1 by rw [← nI_sub hn1, Int32.sub_eq_add_neg, Int32.sub_eq_add_neg, Int32.sub_eq_add_neg, Int32.add_assoc]; rfl]
      refine zs_istore_n_3_7 16 rfl dX9_nextOrder_15 rfl rfl ?_
      exact fndI (n - 1) (by omega) rfl
    · (try rw [nI_leI (by omega) (by omega)] at h7)
      omega
