/-! a text as a box: its first fault -/
def dv (c : Int32) : Nat := (c - nI 48).toNatClampNeg
abbrev isD (c : Int32) : Prop := nI 48 ≤ c ∧ c ≤ nI 57
theorem isD_of {c : Int32} (h : isD c) : ∃ v, v ≤ 9 ∧ c = nI (48 + v) ∧ c - nI 48 = nI v ∧ dv c = v := by
  obtain ⟨j, hj, rfl⟩ := nI_of (x := c) (Int32.not_lt.mpr (Int32.le_trans (nI_pos' (by decide)) h.1))
  have h1 := (nI_leI (by decide) hj).mp h.1
  have h2 := (nI_leI hj (by decide)).mp h.2
  have e : nI j - nI 48 = nI (j - 48) := by
    have e2 : nI j = nI (j - 48) + nI 48 := by rw [nI_add]; congr 1; omega
    rw [e2, Int32.add_sub_cancel]
  exact ⟨j - 48, by omega, by rw [show 48 + (j - 48) = j by omega], e, by unfold dv; rw [e, nI_clamp (by omega)]⟩
/-- k characters are left from i on, w words begun, g figures of the last one read, s their sum: the fault's place -/
def bfR (f : Nat → Int32) : Nat → Nat → Nat → Nat → Nat → Option Nat
  | 0, i, w, g, _ => if w = 0 ∨ g < 10 then some i else none
  | k + 1, i, w, g, s => if g < 10 then (if isD (f i) then (if g + 1 = 10 ∧ s + dv (f i) = 0 then some (i + 1) else bfR f k (i + 1) w (g + 1) (s + dv (f i))) else some i)
    else if f i = nI 119 ∧ w < 8 then bfR f k (i + 1) (w + 1) 0 0 else if f i = nI 32 then bfR f k (i + 1) w g s else some i
theorem bfR_s (f : Nat → Int32) : ∀ (k i w g s s' : Nat), 10 ≤ g → bfR f k i w g s = bfR f k i w g s' := by
  intro k
  induction k with
  | zero => intro i w g s s' h; rfl
  | succ k ih =>
    intro i w g s s' h
    rw [bfR, bfR, if_neg (show ¬ g < 10 by omega), if_neg (show ¬ g < 10 by omega), ih (i + 1) w g s s' h]
def sBf (o : sRow) : Option Nat := match o with
  | none => none
  | some q => bfR q.2 q.1 0 0 10 0
def fI (o : Option Nat) : Int32 := match o with
  | none => -9
  | some p => nI p
set_option maxRecDepth 20000 in
theorem tX7_boxFault {E : zE} {d : Nat} {σ : zM} {a cap : Nat} {q : Nat × (Nat → Int32)} (hk : (kd a).1 = 7) (hk1 : kd (a + 1) = (11, cap)) (hS : Sh σ a cap (some q)) (hcap : cap ≤ 120) : Ret E mX7_boxFault d [zr E a] σ (qI fun x τ => x = fI (sBf (some q)) ∧ τ = σ) := by
  have hc := cap_lt hk1
  have hq := hS.1
  have hs : gi σ a 1 = nI q.1 := hS.2.1
  obtain ⟨R, hR⟩ : ∃ R, R = sBf (some q) := ⟨_, rfl⟩
  rw [← hR]
  refine Ret.of [some (zr E a), none, none, none, none, none] (by decide +kernel) (Nat.le_of_ble_eq_true rfl) rfl ?_
  have loop : ∀ i, i ≤ q.1 → ∀ w g s, w ≤ 8 → g ≤ 10 → s ≤ 9 * i → R = bfR q.2 (q.1 - i) i w g s → At E mX7_boxFault d (qI fun x τ => x = fI R ∧ τ = σ) 10 [some (zr E a), some (.int (nI w)), some (.int (nI g)), some (.int (nI s)), some (.int (nI i)), none] [] σ := by
    refine z_up (fun i hi ih w g s hw hg hs9 hb => ?_)
    by_cases hiq : q.1 ≤ i
    · rw [show q.1 - i = 0 by omega] at hb
      have hb : R = if w = 0 ∨ g < 10 then some i else none := hb
      refine z_iload 12 dX7_boxFault_10 rfl rfl ?_
      refine z_aload_n 13 dX7_boxFault_12 rfl rfl ?_
      refine gX7_9 16 rfl dX7_boxFault_13 rfl (by first | assumption | rfl) ?_
      rw [hs]
      refine z_icmp_ge 116 19 dX7_boxFault_16 (by decide) rfl (fun h16 => ?_) (fun h16 => ?_)
      · (try rw [nI_leI (by omega) (by omega)] at h16)
        refine z_iload_n 117 dX7_boxFault_116 rfl rfl ?_
        refine z_if_eq 126 120 dX7_boxFault_117 (by decide) rfl (fun h117 => ?_) (fun h117 => ?_)
        · (try rw [nI_eq0 (by omega)] at h117)
          refine z_aload_n 127 dX7_boxFault_126 rfl rfl ?_
          refine gX7_9 130 rfl dX7_boxFault_127 rfl (by first | assumption | rfl) ?_
          rw [hs]
          refine z_goto 135 dX7_boxFault_130 rfl ?_
          refine z_ri dX7_boxFault_135 rfl ?_
          first | exact ⟨by rw [hb, if_pos (by omega), show i = q.1 by omega]; rfl, rfl⟩ | exact ⟨by rw [hb, if_neg (by omega)]; rfl, rfl⟩
        · (try rw [nI_eq0 (by omega)] at h117)
          refine z_iload_n 121 dX7_boxFault_120 rfl rfl ?_
          refine z_bipush 123 (v := nI 10) dX7_boxFault_121 rfl rfl ?_
          refine z_icmp_ge 133 126 dX7_boxFault_123 (by decide) rfl (fun h123 => ?_) (fun h123 => ?_)
          · (try rw [nI_leI (by omega) (by omega)] at h123)
            refine z_bipush 135 (v := (-9)) dX7_boxFault_133 rfl rfl ?_
            refine z_ri dX7_boxFault_135 rfl ?_
            first | exact ⟨by rw [hb, if_pos (by omega), show i = q.1 by omega]; rfl, rfl⟩ | exact ⟨by rw [hb, if_neg (by omega)]; rfl, rfl⟩
          · (try rw [nI_leI (by omega) (by omega)] at h123)
            refine z_aload_n 127 dX7_boxFault_126 rfl rfl ?_
            refine gX7_9 130 rfl dX7_boxFault_127 rfl (by first | assumption | rfl) ?_
            rw [hs]
            refine z_goto 135 dX7_boxFault_130 rfl ?_
            refine z_ri dX7_boxFault_135 rfl ?_
            first | exact ⟨by rw [hb, if_pos (by omega), show i = q.1 by omega]; rfl, rfl⟩ | exact ⟨by rw [hb, if_neg (by omega)]; rfl, rfl⟩
      · (try rw [nI_leI (by omega) (by omega)] at h16)
        omega
    · rw [show q.1 - i = (q.1 - (i + 1)) + 1 by omega] at hb
      unfold bfR at hb
      have hf : gi σ (a + 1) i = q.2 i := hS.2.2 i (by omega)
      refine z_iload 12 dX7_boxFault_10 rfl rfl ?_
      refine z_aload_n 13 dX7_boxFault_12 rfl rfl ?_
      refine gX7_9 16 rfl dX7_boxFault_13 rfl (by first | assumption | rfl) ?_
      rw [hs]
      refine z_icmp_ge 116 19 dX7_boxFault_16 (by decide) rfl (fun h16 => ?_) (fun h16 => ?_)
      · (try rw [nI_leI (by omega) (by omega)] at h16)
        omega
      · (try rw [nI_leI (by omega) (by omega)] at h16)
        refine z_aload_n 20 dX7_boxFault_19 rfl rfl ?_
        refine gX7_21 23 rfl dX7_boxFault_20 rfl (by first | assumption | rfl) ?_
        refine z_iload 25 dX7_boxFault_23 rfl rfl ?_
        refine z_ialdn 26 dX7_boxFault_25 rfl (by first | assumption | rfl) (by omega) ?_
        rw [hf]
        refine zs_istore_5_6 28 rfl dX7_boxFault_26 rfl rfl ?_
        refine z_iload_n 29 dX7_boxFault_28 rfl rfl ?_
        refine z_bipush 31 (v := nI 10) dX7_boxFault_29 rfl rfl ?_
        refine z_icmp_ge 77 34 dX7_boxFault_31 (by decide) rfl (fun h31 => ?_) (fun h31 => ?_)
        · (try rw [nI_leI (by omega) (by omega)] at h31)
          rw [if_neg (by omega)] at hb
          refine z_iload 79 dX7_boxFault_77 rfl rfl ?_
          refine z_bipush 81 (v := nI 119) dX7_boxFault_79 rfl rfl ?_
          refine z_icmp_ne 100 84 dX7_boxFault_81 (by decide) rfl (fun h81 => ?_) (fun h81 => ?_)
          · rw [if_neg (fun z => h81 z.1)] at hb
            refine z_iload 102 dX7_boxFault_100 rfl rfl ?_
            refine z_bipush 104 (v := nI 32) dX7_boxFault_102 rfl rfl ?_
            refine z_icmp_eq 110 107 dX7_boxFault_104 (by decide) rfl (fun h104 => ?_) (fun h104 => ?_)
            · rw [if_pos h104] at hb
              refine zs_iinc_4_6_1 113 rfl dX7_boxFault_110 rfl rfl ?_
              rw [nI_add]
              refine z_goto 10 dX7_boxFault_113 rfl ?_
              exact zf_5_6 (ih (i + 1) (by omega) (by omega) _ _ _ (by omega) (by omega) (by omega) hb)
            · rw [if_neg h104] at hb
              refine z_iload 109 dX7_boxFault_107 rfl rfl ?_
              refine z_ri dX7_boxFault_109 rfl ?_
              exact ⟨by rw [hb]; rfl, rfl⟩
          · refine z_iload_n 85 dX7_boxFault_84 rfl rfl ?_
            refine z_bipush 87 (v := nI 8) dX7_boxFault_85 rfl rfl ?_
            refine z_icmp_ge 100 90 dX7_boxFault_87 (by decide) rfl (fun h87 => ?_) (fun h87 => ?_)
            · (try rw [nI_leI (by omega) (by omega)] at h87)
              rw [if_neg (fun z => by omega)] at hb
              refine z_iload 102 dX7_boxFault_100 rfl rfl ?_
              refine z_bipush 104 (v := nI 32) dX7_boxFault_102 rfl rfl ?_
              refine z_icmp_eq 110 107 dX7_boxFault_104 (by decide) rfl (fun h104 => ?_) (fun h104 => ?_)
              · rw [if_pos h104] at hb
                refine zs_iinc_4_6_1 113 rfl dX7_boxFault_110 rfl rfl ?_
                rw [nI_add]
                refine z_goto 10 dX7_boxFault_113 rfl ?_
                exact zf_5_6 (ih (i + 1) (by omega) (by omega) _ _ _ (by omega) (by omega) (by omega) hb)
              · rw [if_neg h104] at hb
                refine z_iload 109 dX7_boxFault_107 rfl rfl ?_
                refine z_ri dX7_boxFault_109 rfl ?_
                exact ⟨by rw [hb]; rfl, rfl⟩
            · (try rw [nI_leI (by omega) (by omega)] at h87)
              rw [if_pos ⟨h81, by omega⟩] at hb
              refine zs_iinc_1_6_1 93 rfl dX7_boxFault_90 rfl rfl ?_
              rw [nI_add]
              refine z_iconst 94 (v := nI 0) dX7_boxFault_93 rfl rfl ?_
              refine zs_istore_n_2_6 95 rfl dX7_boxFault_94 rfl rfl ?_
              refine z_iconst 96 (v := nI 0) dX7_boxFault_95 rfl rfl ?_
              refine zs_istore_n_3_6 97 rfl dX7_boxFault_96 rfl rfl ?_
              refine z_goto 110 dX7_boxFault_97 rfl ?_
              refine zs_iinc_4_6_1 113 rfl dX7_boxFault_110 rfl rfl ?_
              rw [nI_add]
              refine z_goto 10 dX7_boxFault_113 rfl ?_
              exact zf_5_6 (ih (i + 1) (by omega) (by omega) _ _ _ (by omega) (by omega) (by omega) hb)
        · (try rw [nI_leI (by omega) (by omega)] at h31)
          rw [if_pos (by omega)] at hb
          refine z_iload 36 dX7_boxFault_34 rfl rfl ?_
          refine z_bipush 38 (v := nI 48) dX7_boxFault_36 rfl rfl ?_
          refine z_icmp_lt 48 41 dX7_boxFault_38 (by decide) rfl (fun h38 => ?_) (fun h38 => ?_)
          · rw [if_neg (fun z => Int32.not_le.mpr h38 z.1)] at hb
            refine z_iload 50 dX7_boxFault_48 rfl rfl ?_
            refine z_ri dX7_boxFault_50 rfl ?_
            exact ⟨by rw [hb]; rfl, rfl⟩
          · refine z_iload 43 dX7_boxFault_41 rfl rfl ?_
            refine z_bipush 45 (v := nI 57) dX7_boxFault_43 rfl rfl ?_
            refine z_icmp_le 51 48 dX7_boxFault_45 (by decide) rfl (fun h45 => ?_) (fun h45 => ?_)
            · have hD : isD (q.2 i) := ⟨Int32.not_lt.mp h38, h45⟩
              obtain ⟨v, hv, hv1, hv2, hv3⟩ := isD_of hD
              rw [if_pos hD, hv3] at hb
              refine z_iload_n 52 dX7_boxFault_51 rfl rfl ?_
              refine z_iload 54 dX7_boxFault_52 rfl rfl ?_
              refine z_bipush 56 (v := nI 48) dX7_boxFault_54 rfl rfl ?_
              refine z_isub 57 dX7_boxFault_56 rfl ?_
              rw [hv2]
              refine z_iadd 58 dX7_boxFault_57 rfl ?_
              rw [nI_add]
              refine zs_istore_n_3_6 59 rfl dX7_boxFault_58 rfl rfl ?_
              refine zs_iinc_2_6_1 62 rfl dX7_boxFault_59 rfl rfl ?_
              rw [nI_add]
              refine z_iload_n 63 dX7_boxFault_62 rfl rfl ?_
              refine z_bipush 65 (v := nI 10) dX7_boxFault_63 rfl rfl ?_
              refine z_icmp_ne 110 68 dX7_boxFault_65 (by decide) rfl (fun h65 => ?_) (fun h65 => ?_)
              · (try rw [nI_eq (by omega) (by omega)] at h65)
                rw [if_neg (by omega)] at hb
                refine zs_iinc_4_6_1 113 rfl dX7_boxFault_110 rfl rfl ?_
                rw [nI_add]
                refine z_goto 10 dX7_boxFault_113 rfl ?_
                exact zf_5_6 (ih (i + 1) (by omega) (by omega) _ _ _ (by omega) (by omega) (by omega) hb)
              · (try rw [nI_eq (by omega) (by omega)] at h65)
                refine z_iload_n 69 dX7_boxFault_68 rfl rfl ?_
                refine z_if_ne 110 72 dX7_boxFault_69 (by decide) rfl (fun h69 => ?_) (fun h69 => ?_)
                · (try rw [nI_eq0 (by omega)] at h69)
                  rw [if_neg (by omega)] at hb
                  refine zs_iinc_4_6_1 113 rfl dX7_boxFault_110 rfl rfl ?_
                  rw [nI_add]
                  refine z_goto 10 dX7_boxFault_113 rfl ?_
                  exact zf_5_6 (ih (i + 1) (by omega) (by omega) _ _ _ (by omega) (by omega) (by omega) hb)
                · (try rw [nI_eq0 (by omega)] at h69)
                  rw [if_pos (by omega)] at hb
                  refine z_iload 74 dX7_boxFault_72 rfl rfl ?_
                  refine z_iconst 75 (v := nI 1) dX7_boxFault_74 rfl rfl ?_
                  refine z_iadd 76 dX7_boxFault_75 rfl ?_
                  rw [nI_add]
                  refine z_ri dX7_boxFault_76 rfl ?_
                  exact ⟨by rw [hb]; rfl, rfl⟩
            · rw [if_neg (fun z => h45 z.2)] at hb
              refine z_iload 50 dX7_boxFault_48 rfl rfl ?_
              refine z_ri dX7_boxFault_50 rfl ?_
              exact ⟨by rw [hb]; rfl, rfl⟩
  refine z_iconst 1 (v := nI 0) dX7_boxFault_0 rfl rfl ?_
  refine zs_istore_n_1_6 2 rfl dX7_boxFault_1 rfl rfl ?_
  refine z_bipush 4 (v := nI 10) dX7_boxFault_2 rfl rfl ?_
  refine zs_istore_n_2_6 5 rfl dX7_boxFault_4 rfl rfl ?_
  refine z_iconst 6 (v := nI 0) dX7_boxFault_5 rfl rfl ?_
  refine zs_istore_n_3_6 7 rfl dX7_boxFault_6 rfl rfl ?_
  refine z_iconst 8 (v := nI 0) dX7_boxFault_7 rfl rfl ?_
  refine zs_istore_4_6 10 rfl dX7_boxFault_8 rfl rfl ?_
  exact loop 0 (Nat.zero_le _) 0 10 0 (by decide) (by decide) (by decide) hR
set_option maxRecDepth 20000 in
theorem tX10_here {E : zE} {d : Nat} {σ : zM} {t i : Nat} {q : Nat × (Nat → Int32)} (ht : t < 4) (hS : mSh σ 107 108 t 120 (some q)) (hi : gi σ 102 12 = nI i) (hi2 : i ≤ q.1) : Ret E mX10_here d [zr E 102, .int (nI t)] σ (qI fun x τ => x = (if i < q.1 then q.2 i else -9) ∧ τ = σ) := by
  have h120 := hS.1
  have hs : gi σ 107 t = nI q.1 := hS.2.1
  refine Ret.of [some (zr E 102), some (.int (nI t))] (by decide +kernel) (Nat.le_of_ble_eq_true rfl) rfl ?_
  refine z_aload_n 1 dX10_here_0 rfl rfl ?_
  refine gX10_126 4 rfl dX10_here_1 rfl ?_
  refine z_aload_n 5 dX10_here_4 rfl rfl ?_
  refine gX10_26 8 rfl dX10_here_5 rfl ?_
  refine z_iload_n 9 dX10_here_8 rfl rfl ?_
  refine z_ialdn 10 dX10_here_9 rfl (by first | assumption | rfl) (by omega) ?_
  rw [hi, hs]
  refine z_icmp_ge 30 13 dX10_here_10 (by decide) rfl (fun h10 => ?_) (fun h10 => ?_)
  · (try rw [nI_leI (by omega) (by omega)] at h10)
    rw [if_neg (show ¬ i < q.1 by omega)]
    refine z_bipush 32 (v := (-9)) dX10_here_30 rfl rfl ?_
    refine z_ri dX10_here_32 rfl ?_
    first | exact ⟨rfl, rfl⟩ | exact ⟨hS.2.2 i (by omega), rfl⟩
  · (try rw [nI_leI (by omega) (by omega)] at h10)
    rw [if_pos (show i < q.1 by omega)]
    refine z_aload_n 14 dX10_here_13 rfl rfl ?_
    refine gX10_29 17 rfl dX10_here_14 rfl ?_
    refine z_bipush 19 (v := nI 120) dX10_here_17 rfl rfl ?_
    refine z_iload_n 20 dX10_here_19 rfl rfl ?_
    refine z_imul 21 dX10_here_20 rfl ?_
    refine z_aload_n 22 dX10_here_21 rfl rfl ?_
    refine gX10_126 25 rfl dX10_here_22 rfl ?_
    refine z_iadd 26 dX10_here_25 rfl ?_
    rw [hi, nI_mul, nI_add]
    refine z_ialdn 27 dX10_here_26 rfl (by first | assumption | rfl) (by omega) ?_
    refine z_goto 32 dX10_here_27 rfl ?_
    refine z_ri dX10_here_32 rfl ?_
    first | exact ⟨rfl, rfl⟩ | exact ⟨hS.2.2 i (by omega), rfl⟩
/-- the words and figures of the first i characters -/
def wc (f : Nat → Int32) : Nat → Nat
  | 0 => 0
  | i + 1 => wc f i + if f i = nI 119 then 1 else 0
def dc (f : Nat → Int32) : Nat → Nat
  | 0 => 0
  | i + 1 => dc f i + if f i = nI 119 ∨ f i = nI 32 then 0 else 1
def dg (f : Nat → Int32) : Nat → Nat → Nat
  | 0 => fun _ => 0
  | i + 1 => if f i = nI 119 ∨ f i = nI 32 then dg f i else zu (dg f i) (dc f i) (dv (f i))
theorem dg_old (f : Nat → Int32) : ∀ i j k, i ≤ j → k < dc f i → dg f j k = dg f i k ∧ dc f i ≤ dc f j := by
  intro i j
  induction j with
  | zero => intro k h1 h2; rw [show i = 0 by omega]; exact ⟨rfl, Nat.le_refl _⟩
  | succ j ih =>
    intro k h1 h2
    by_cases hij : i = j + 1
    · rw [hij]; exact ⟨rfl, Nat.le_refl _⟩
    · obtain ⟨e1, e2⟩ := ih k (by omega) h2
      constructor
      · rw [dg]
        by_cases hc : f j = nI 119 ∨ f j = nI 32
        · rw [if_pos hc]; exact e1
        · rw [if_neg hc]
          unfold zu
          rw [if_neg (by omega)]
          exact e1
      · rw [dc]; omega
/-- what holds behind i characters without a fault: w words, g figures of the last one, s their sum -/
def pI (f : Nat → Int32) (i w g s : Nat) : Prop := wc f i = w ∧ dc f i + 10 = 10 * w + g ∧ w ≤ 8 ∧ g ≤ 10 ∧ (w = 0 → g = 10) ∧ (∀ k, k < dc f i → dg f i k ≤ 9) ∧ (∀ v, v + 1 < w → ∃ p, p < 10 ∧ 0 < dg f i (10 * v + p)) ∧ (0 < w → (g = 10 → 0 < s) → (0 < s → ∃ p, p < g ∧ 0 < dg f i (10 * (w - 1) + p)))
theorem pI_run (f : Nat → Int32) : ∀ (k i w g s : Nat), bfR f k i w g s = none → pI f i w g s → (0 < w → g = 10 → ∃ p, p < 10 ∧ 0 < dg f i (10 * (w - 1) + p)) → (∀ j, i ≤ j → j < i + k → f j = nI 119 ∨ f j = nI 32 ∨ (isD (f j) ∧ dc f j < 80)) ∧ ∃ w', 0 < w' ∧ w' ≤ 8 ∧ wc f (i + k) = w' ∧ dc f (i + k) = 10 * w' ∧ (∀ y, y < 10 * w' → dg f (i + k) y ≤ 9) ∧ ∀ v, v < w' → ∃ p, p < 10 ∧ 0 < dg f (i + k) (10 * v + p) := by
  intro k
  induction k with
  | zero =>
    intro i w g s h hp hl
    obtain ⟨p1, p2, p3, p4, p5, p6, p7, p8⟩ := hp
    have h : (if w = 0 ∨ g < 10 then some i else none) = none := h
    by_cases hw : w = 0 ∨ g < 10
    · rw [if_pos hw] at h; cases h
    · have hg : g = 10 := by omega
      refine ⟨fun j h1 h2 => absurd h2 (by omega), w, by omega, p3, p1, by show dc f i = _; omega, fun y hy => p6 y (by omega), fun v hv => ?_⟩
      by_cases hvw : v + 1 < w
      · exact p7 v hvw
      · have := hl (by omega) hg
        rwa [show w - 1 = v by omega] at this
  | succ k ih =>
    intro i w g s h hp hl
    obtain ⟨p1, p2, p3, p4, p5, p6, p7, p8⟩ := hp
    rw [bfR] at h
    have nx : ∀ {w' g' s'}, bfR f k (i + 1) w' g' s' = none → pI f (i + 1) w' g' s' → (0 < w' → g' = 10 → ∃ p, p < 10 ∧ 0 < dg f (i + 1) (10 * (w' - 1) + p)) → (f i = nI 119 ∨ f i = nI 32 ∨ (isD (f i) ∧ dc f i < 80)) → (∀ j, i ≤ j → j < i + (k + 1) → f j = nI 119 ∨ f j = nI 32 ∨ (isD (f j) ∧ dc f j < 80)) ∧ ∃ w', 0 < w' ∧ w' ≤ 8 ∧ wc f (i + (k + 1)) = w' ∧ dc f (i + (k + 1)) = 10 * w' ∧ (∀ y, y < 10 * w' → dg f (i + (k + 1)) y ≤ 9) ∧ ∀ v, v < w' → ∃ p, p < 10 ∧ 0 < dg f (i + (k + 1)) (10 * v + p) := by
      intro w' g' s' h1 h2 h3 h4
      have := ih (i + 1) w' g' s' h1 h2 h3
      rw [show i + 1 + k = i + (k + 1) by omega] at this
      refine ⟨fun j h5 h6 => ?_, this.2⟩
      by_cases hji : j = i
      · rw [hji]; exact h4
      · exact this.1 j (by omega) h6
    by_cases hg : g < 10
    · rw [if_pos hg] at h
      by_cases hD : isD (f i)
      · rw [if_pos hD] at h
        have hne : ¬ (f i = nI 119 ∨ f i = nI 32) := by
          obtain ⟨v, hv, hv1, -⟩ := isD_of hD
          rw [hv1, nI_eq (by omega) (by decide), nI_eq (by omega) (by decide)]
          omega
        obtain ⟨v, hv, hv1, hv2, hv3⟩ := isD_of hD
        have w0 : 0 < w := by
          rcases Nat.eq_zero_or_pos w with q | q
          · have := p5 q; omega
          · exact q
        have dd : dc f i = 10 * (w - 1) + g := by omega
        have edg : dg f (i + 1) = zu (dg f i) (dc f i) v := by rw [dg, if_neg hne, hv3]
        have edc : dc f (i + 1) = dc f i + 1 := by rw [dc, if_neg hne]
        have ewc : wc f (i + 1) = w := by rw [wc, if_neg (fun z => hne (Or.inl z))]; omega
        have old : ∀ y, y < dc f i → dg f (i + 1) y = dg f i y := fun y hy => by rw [edg]; unfold zu; rw [if_neg (by omega)]
        have new : dg f (i + 1) (dc f i) = v := by rw [edg]; unfold zu; rw [if_pos rfl]
        by_cases hz : g + 1 = 10 ∧ s + dv (f i) = 0
        · rw [if_pos hz] at h; cases h
        · rw [if_neg hz] at h
          have ex : 0 < s + v → (0 < s → ∃ p, p < g ∧ 0 < dg f i (10 * (w - 1) + p)) → ∃ p, p < g + 1 ∧ 0 < dg f (i + 1) (10 * (w - 1) + p) := by
            intro h1 h2
            rcases Nat.eq_zero_or_pos v with q | q
            · obtain ⟨p, q1, q2⟩ := h2 (by omega)
              exact ⟨p, by omega, by rw [old _ (by omega)]; exact q2⟩
            · exact ⟨g, by omega, by rw [← dd, new]; exact q⟩
          rw [hv3] at h hz
          refine nx h ⟨ewc, by omega, p3, by omega, fun z => by omega, fun y hy => ?_, fun u hu => ?_, fun _ _ hs => ex hs (p8 w0 (fun z => by omega))⟩ (fun _ z => ?_) (Or.inr (Or.inr ⟨hD, by omega⟩))
          · by_cases hyd : y = dc f i
            · rw [hyd, new]; exact hv
            · rw [old y (by omega)]; exact p6 y (by omega)
          · obtain ⟨p, q1, q2⟩ := p7 u hu
            exact ⟨p, q1, by rw [old _ (by omega)]; exact q2⟩
          · obtain ⟨p, q1, q2⟩ := ex (by omega) (p8 w0 (fun z => by omega))
            exact ⟨p, by omega, q2⟩
      · rw [if_neg hD] at h; cases h
    · rw [if_neg hg] at h
      have hg10 : g = 10 := by omega
      by_cases hw : f i = nI 119 ∧ w < 8
      · rw [if_pos hw] at h
        have edg : dg f (i + 1) = dg f i := by rw [dg, if_pos (Or.inl hw.1)]
        have edc : dc f (i + 1) = dc f i := by rw [dc, if_pos (Or.inl hw.1), Nat.add_zero]
        have ewc : wc f (i + 1) = w + 1 := by rw [wc, if_pos hw.1, p1]
        refine nx h ⟨ewc, by omega, by omega, by omega, fun z => by omega, fun y hy => by rw [edg]; exact p6 y (by omega), fun u hu => ?_, fun _ _ hs => absurd hs (by omega)⟩ (fun _ z => by omega) (Or.inl hw.1)
        rw [edg]
        by_cases huw : u + 1 < w
        · exact p7 u huw
        · have := hl (by omega) hg10
          rwa [show w - 1 = u by omega] at this
      · rw [if_neg hw] at h
        by_cases h32 : f i = nI 32
        · rw [if_pos h32] at h
          have edg : dg f (i + 1) = dg f i := by rw [dg, if_pos (Or.inr h32)]
          have edc : dc f (i + 1) = dc f i := by rw [dc, if_pos (Or.inr h32), Nat.add_zero]
          have ewc : wc f (i + 1) = w := by
            rw [wc, if_neg (by rw [h32, nI_eq (by decide) (by decide)]; decide), p1]
            rfl
          exact nx h ⟨ewc, by omega, p3, p4, p5, fun y hy => by rw [edg]; exact p6 y (by omega), fun u hu => by rw [edg]; exact p7 u hu, fun a b c => by rw [edg]; exact p8 a b c⟩ (fun a b => by rw [edg]; exact hl a b) (Or.inr (Or.inl h32))
        · rw [if_neg h32] at h; cases h
theorem pI_all {q : Nat × (Nat → Int32)} (h : sBf (some q) = none) : (∀ j, j < q.1 → q.2 j = nI 119 ∨ q.2 j = nI 32 ∨ (isD (q.2 j) ∧ dc q.2 j < 80)) ∧ 0 < wc q.2 q.1 ∧ wc q.2 q.1 ≤ 8 ∧ dc q.2 q.1 = 10 * wc q.2 q.1 ∧ (∀ y, y < 10 * wc q.2 q.1 → dg q.2 q.1 y ≤ 9) ∧ ∀ v, v < wc q.2 q.1 → ∃ p, p < 10 ∧ 0 < dg q.2 q.1 (10 * v + p) := by
  have := pI_run q.2 q.1 0 0 10 0 h ⟨rfl, rfl, by omega, by omega, fun _ => rfl, fun k hk => absurd hk (Nat.not_lt_zero k), fun v hv => absurd hv (by omega), fun z => absurd z (by omega)⟩ (fun z => absurd z (by omega))
  rw [Nat.zero_add] at this
  obtain ⟨h1, w', h2, h3, h4, h5, h6, h7⟩ := this
  rw [h4]
  exact ⟨fun j hj => h1 j (Nat.zero_le j) hj, h2, h3, h5, h6, h7⟩
