def mxv (f : Nat → Nat) : Nat → Nat
  | 0 => 0
  | n + 1 => if mxv f n < f n then f n else mxv f n
def amg (f : Nat → Nat) : Nat → Nat
  | 0 => 0
  | n + 1 => if mxv f n < f n then n else amg f n
theorem mxv_le {f : Nat → Nat} {c : Nat} : ∀ n, (∀ i, i < n → f i ≤ c) → mxv f n ≤ c := by
  intro n
  induction n with
  | zero => intro _; exact Nat.zero_le _
  | succ n ih =>
    intro h
    rw [mxv]
    split
    · exact h n (by omega)
    · exact ih (fun i hi => h i (by omega))
def lkF (S : sS) (p k : Nat) : Nat := lik S p k (sLc S)
theorem lkF_le {S : sS} (hW : WF S) {p : Nat} (hp : p < sPc S) (h8 : lvs S true p (sLc S) ≤ 8) (k : Nat) : lkF S p k ≤ 110075314176 := by
  have h1 : lkF S p k ≤ 24 ^ lvs S true p (sLc S) := lik_le hW hp k (sLc S) (Nat.le_refl _)
  have h2 : 24 ^ lvs S true p (sLc S) ≤ 24 ^ 8 := Nat.pow_le_pow_right (by decide) h8
  have h3 : (24 : Nat) ^ 8 = 110075314176 := by decide
  omega
def spGuesser (S : sS) (p : Int32) : Int32 × sS := if ¬ inN p (sPc S) then (-1, S) else if 8 < lvs S true (zx p) (sLc S) then (-6, S) else if lvs S true (zx p) (sLc S) = 0 then sFd S 4 else if fsum (lkF S (zx p)) 6 = 0 then sFd S 4 else sTell S (mxv (lkF S (zx p)) 6) (fsum (lkF S (zx p)) 6) (nI (amg (lkF S (zx p)) 6))
set_option maxRecDepth 20000 in
theorem tX9_guesser {E : zE} {d : Nat} {σ : zM} {S : sS} {p : Int32} (hW : WF S) (hX : RX S σ) : Ret E mX9_guesser (d + 4) [zr E 0, .int p] σ (qX σ (spGuesser S p)) := by
  have h8 := hW.2.1.1
  have h12 := hW.2.2.1
  by_cases hA : ¬ inN p (sPc S)
  · refine Ret.of [some (zr E 0), some (.int p), none, none, none, none, none, none, none, none, none] (by decide +kernel) (Nat.le_of_ble_eq_true rfl) rfl ?_
    refine z_aload_n 1 dX9_guesser_0 rfl rfl ?_
    refine z_iload_n 2 dX9_guesser_1 rfl rfl ?_
    refine z_cVI1 5 (tX9_isPl (by assumption) (by assumption)) kX9_isPlayer dX9_guesser_2 rfl lX9_176 (by first | assumption | rfl) (Nat.le_of_ble_eq_true rfl) ?_
    rintro _ _ ⟨e1, e2⟩
    replace e1 := e1.symm
    replace e2 := e2.symm
    subst e1
    subst e2
    refine z_ifb_ne 10 8 dX9_guesser_5 (by decide) rfl (fun h5 => ?_) (fun h5 => ?_)
    · exact absurd h5 hA
    · refine z_iconst 9 (v := (-1)) dX9_guesser_8 rfl rfl ?_
      refine z_ri dX9_guesser_9 rfl ?_
      exact qx0 (if_pos hA) hX Fr.rf
  have e0 : spGuesser S p = _ := if_neg hA
  have hA := Classical.not_not.mp hA
  have hA' := hA
  obtain ⟨p, hp, rfl⟩ := inN_of hA
  rw [zx_nI (by omega)] at e0
  have hlv := lvs_le S true p (sLc S)
  refine Ret.of [some (zr E 0), some (.int (nI p)), none, none, none, none, none, none, none, none, none] (by decide +kernel) (Nat.le_of_ble_eq_true rfl) rfl ?_
  by_cases hB : 8 < lvs S true p (sLc S)
  · rw [if_pos hB] at e0
    refine z_aload_n 1 dX9_guesser_0 rfl rfl ?_
    refine z_iload_n 2 dX9_guesser_1 rfl rfl ?_
    refine z_cVI1 5 (tX9_isPl (by assumption) (by assumption)) kX9_isPlayer dX9_guesser_2 rfl lX9_176 (by first | assumption | rfl) (Nat.le_of_ble_eq_true rfl) ?_
    rintro _ _ ⟨e1, e2⟩
    replace e1 := e1.symm
    replace e2 := e2.symm
    subst e1
    subst e2
    refine z_ifb_ne 10 8 dX9_guesser_5 (by decide) rfl (fun h5 => ?_) (fun h5 => ?_)
    · refine z_aload_n 11 dX9_guesser_10 rfl rfl ?_
      refine z_iload_n 12 dX9_guesser_11 rfl rfl ?_
      refine z_iconst 13 (v := nI 1) dX9_guesser_12 rfl rfl ?_
      refine z_cVI2 16 (tX9_leavesOf (k := true) hW hX hp) kX9_leavesOf dX9_guesser_13 rfl lX9_327 (by first | assumption | rfl) (Nat.le_of_ble_eq_true rfl) ?_
      rintro _ _ ⟨e1, e2⟩
      replace e1 := e1.symm
      replace e2 := e2.symm
      subst e1
      subst e2
      refine zs_istore_n_2_11 17 rfl dX9_guesser_16 rfl rfl ?_
      refine z_iload_n 18 dX9_guesser_17 rfl rfl ?_
      refine z_bipush 20 (v := nI 8) dX9_guesser_18 rfl rfl ?_
      refine z_icmp_le 26 23 dX9_guesser_20 (by decide) rfl (fun h20 => ?_) (fun h20 => ?_)
      · (try rw [nI_leI (by omega) (by omega)] at h20)
        omega
      · (try rw [nI_leI (by omega) (by omega)] at h20)
        refine z_bipush 25 (v := (-6)) dX9_guesser_23 rfl rfl ?_
        refine z_ri dX9_guesser_25 rfl ?_
        exact qx0 e0 hX Fr.rf
    · exact absurd hA' h5
  rw [if_neg hB] at e0
  by_cases hZ : lvs S true p (sLc S) = 0
  · rw [if_pos hZ] at e0
    refine z_aload_n 1 dX9_guesser_0 rfl rfl ?_
    refine z_iload_n 2 dX9_guesser_1 rfl rfl ?_
    refine z_cVI1 5 (tX9_isPl (by assumption) (by assumption)) kX9_isPlayer dX9_guesser_2 rfl lX9_176 (by first | assumption | rfl) (Nat.le_of_ble_eq_true rfl) ?_
    rintro _ _ ⟨e1, e2⟩
    replace e1 := e1.symm
    replace e2 := e2.symm
    subst e1
    subst e2
    refine z_ifb_ne 10 8 dX9_guesser_5 (by decide) rfl (fun h5 => ?_) (fun h5 => ?_)
    · refine z_aload_n 11 dX9_guesser_10 rfl rfl ?_
      refine z_iload_n 12 dX9_guesser_11 rfl rfl ?_
      refine z_iconst 13 (v := nI 1) dX9_guesser_12 rfl rfl ?_
      refine z_cVI2 16 (tX9_leavesOf (k := true) hW hX hp) kX9_leavesOf dX9_guesser_13 rfl lX9_327 (by first | assumption | rfl) (Nat.le_of_ble_eq_true rfl) ?_
      rintro _ _ ⟨e1, e2⟩
      replace e1 := e1.symm
      replace e2 := e2.symm
      subst e1
      subst e2
      refine zs_istore_n_2_11 17 rfl dX9_guesser_16 rfl rfl ?_
      refine z_iload_n 18 dX9_guesser_17 rfl rfl ?_
      refine z_bipush 20 (v := nI 8) dX9_guesser_18 rfl rfl ?_
      refine z_icmp_le 26 23 dX9_guesser_20 (by decide) rfl (fun h20 => ?_) (fun h20 => ?_)
      · (try rw [nI_leI (by omega) (by omega)] at h20)
        refine z_iload_n 27 dX9_guesser_26 rfl rfl ?_
        refine z_if_ne 39 30 dX9_guesser_27 (by decide) rfl (fun h27 => ?_) (fun h27 => ?_)
        · (try rw [nI_eq0 (by omega)] at h27)
          exact absurd hZ h27
        · (try rw [nI_eq0 (by omega)] at h27)
          refine z_aload_n 31 dX9_guesser_30 rfl rfl ?_
          refine gX9_39 34 rfl dX9_guesser_31 rfl ?_
          refine z_iconst 35 (v := nI 4) dX9_guesser_34 rfl rfl ?_
          refine z_cVI1 38 (tX0_found (by omega) (by omega)) kX0_found dX9_guesser_35 rfl lX9_87 (by first | assumption | rfl) (Nat.le_of_ble_eq_true rfl) ?_
          rintro _ _ ⟨e1, e2⟩
          replace e1 := e1.symm
          replace e2 := e2.symm
          subst e1
          subst e2
          refine z_ri dX9_guesser_38 rfl ?_
          exact qxf hW e0 (by decide) hX Fr.rf
      · (try rw [nI_leI (by omega) (by omega)] at h20)
        omega
    · exact absurd hA' h5
  rw [if_neg hZ] at e0
  have hob := lkF_le hW hp (by omega)
  have hsb : ∀ k, fsum (lkF S p) k ≤ 110075314176 * k := fun k => fsum_bd k (fun i _ => hob i)
  have hmb : ∀ k, mxv (lkF S p) k ≤ 110075314176 := fun k => mxv_le k (fun i _ => hob i)
  have loop : ∀ i, i ≤ 6 → ∀ y τ, Fr xS σ τ → RX S τ → At E mX9_guesser (d + 4) (qX σ (spGuesser S (nI p))) 50 [some (zr E 0), some (.int (nI p)), some (.int (nI (lvs S true p (sLc S)))), some (.int (nI (amg (lkF S p) i))), some (.long (lN (mxv (lkF S p) i))), none, some (.long (lN (fsum (lkF S p) i))), none, some (.int (nI i)), y, none] [] τ := by
    refine z_up (fun i hi ih y τ hF hR => ?_)
    have m1 := hsb i
    have m2 := hmb i
    have m3 := hob i
    by_cases hie : i = 6
    · subst hie
      by_cases hs0 : fsum (lkF S p) 6 = 0
      · rw [if_pos hs0] at e0
        refine z_iload 52 dX9_guesser_50 rfl rfl ?_
        refine z_bipush 54 (v := nI 6) dX9_guesser_52 rfl rfl ?_
        refine z_icmp_ge 94 57 dX9_guesser_54 (by decide) rfl (fun h54 => ?_) (fun h54 => ?_)
        · (try rw [nI_leI (by omega) (by omega)] at h54)
          refine z_lload 96 dX9_guesser_94 rfl rfl ?_
          rw [hs0]
          refine z_lconst 97 (v := 0) dX9_guesser_96 rfl rfl ?_
          refine z_lcmp 98 dX9_guesser_97 rfl ?_
          refine z_if_ne 110 101 dX9_guesser_98 (by decide) rfl (fun h98 => ?_) (fun h98 => ?_)
          · rw [lg_cmp_eq] at h98
            exact absurd rfl h98
          · rw [lg_cmp_eq] at h98
            refine z_aload_n 102 dX9_guesser_101 rfl rfl ?_
            refine gX9_39 105 rfl dX9_guesser_102 rfl ?_
            refine z_iconst 106 (v := nI 4) dX9_guesser_105 rfl rfl ?_
            refine z_cVI1 109 (tX0_found (by omega) (by omega)) kX0_found dX9_guesser_106 rfl lX9_87 (by first | assumption | rfl) (Nat.le_of_ble_eq_true rfl) ?_
            rintro _ _ ⟨e1, e2⟩
            replace e1 := e1.symm
            replace e2 := e2.symm
            subst e1
            subst e2
            refine z_ri dX9_guesser_109 rfl ?_
            exact qxf hW e0 (by decide) hR (hF.mono (by unfold xS; intros; omega))
        · (try rw [nI_leI (by omega) (by omega)] at h54)
          omega
      · rw [if_neg hs0] at e0
        refine z_iload 52 dX9_guesser_50 rfl rfl ?_
        refine z_bipush 54 (v := nI 6) dX9_guesser_52 rfl rfl ?_
        refine z_icmp_ge 94 57 dX9_guesser_54 (by decide) rfl (fun h54 => ?_) (fun h54 => ?_)
        · (try rw [nI_leI (by omega) (by omega)] at h54)
          refine z_lload 96 dX9_guesser_94 rfl rfl ?_
          refine z_lconst 97 (v := 0) dX9_guesser_96 rfl rfl ?_
          refine z_lcmp 98 dX9_guesser_97 rfl ?_
          refine z_if_ne 110 101 dX9_guesser_98 (by decide) rfl (fun h98 => ?_) (fun h98 => ?_)
          · rw [lg_cmp_eq] at h98
            refine z_aload_n 111 dX9_guesser_110 rfl rfl ?_
            refine gX9_39 114 rfl dX9_guesser_111 rfl ?_
            refine z_lload 116 dX9_guesser_114 rfl rfl ?_
            refine z_lload 118 dX9_guesser_116 rfl rfl ?_
            refine z_cVI2 121 (tX0_tell (by omega) (by omega) (by omega)) kX0_tell dX9_guesser_118 rfl lX9_246 (by first | assumption | rfl) (Nat.le_of_ble_eq_true rfl) ?_
            rintro _ _ ⟨e1, e2⟩
            replace e1 := e1.symm
            replace e2 := e2.symm
            subst e1
            subst e2
            refine z_pop 122 dX9_guesser_121 rfl rfl ?_
            refine z_iload_n 123 dX9_guesser_122 rfl rfl ?_
            refine z_ri dX9_guesser_123 rfl ?_
            exact qxt hW e0 hR (hF.mono (by unfold xS; intros; omega))
          · rw [lg_cmp_eq] at h98
            exact absurd ((pk_lEQ (by omega) (by decide)).mp h98) hs0
        · (try rw [nI_leI (by omega) (by omega)] at h54)
          omega
    · refine z_iload 52 dX9_guesser_50 rfl rfl ?_
      refine z_bipush 54 (v := nI 6) dX9_guesser_52 rfl rfl ?_
      refine z_icmp_ge 94 57 dX9_guesser_54 (by decide) rfl (fun h54 => ?_) (fun h54 => ?_)
      · (try rw [nI_leI (by omega) (by omega)] at h54)
        omega
      · (try rw [nI_leI (by omega) (by omega)] at h54)
        refine z_aload_n 58 dX9_guesser_57 rfl rfl ?_
        refine z_iload_n 59 dX9_guesser_58 rfl rfl ?_
        refine z_iload 61 dX9_guesser_59 rfl rfl ?_
        refine z_cVJ2 64 (tX9_likelihood hW hR hp (show i < 6 by omega)) kX9_likelihood dX9_guesser_61 rfl lX9_334 (by first | assumption | rfl) (Nat.le_of_ble_eq_true rfl) ?_
        rintro _ τ1 ⟨e1, hF1, hX1⟩
        subst e1
        have hF2 : Fr xS σ τ1 := hF.tr hF1 (fun _ _ h => h) (fun _ _ h => h)
        rw [show lik S p i (sLc S) = lkF S p i from rfl]
        refine zs_lstore_9_11 66 rfl dX9_guesser_64 rfl rfl ?_
        refine z_lload 68 dX9_guesser_66 rfl rfl ?_
        refine z_lload 70 dX9_guesser_68 rfl rfl ?_
        refine z_ladd 71 dX9_guesser_70 rfl ?_
        rw [lN_add]
        refine zs_lstore_6_11 73 rfl dX9_guesser_71 rfl rfl ?_
        refine z_lload 75 dX9_guesser_73 rfl rfl ?_
        refine z_lload 77 dX9_guesser_75 rfl rfl ?_
        refine z_lcmp 78 dX9_guesser_77 rfl ?_
        refine z_if_le 88 81 dX9_guesser_78 (by decide) rfl (fun h78 => ?_) (fun h78 => ?_)
        · rw [lg_cmp_le] at h78
          rw [pk_lLE (by omega) (by omega)] at h78
          have er : mxv (lkF S p) (i + 1) = mxv (lkF S p) i := if_neg (by omega)
          have es : amg (lkF S p) (i + 1) = amg (lkF S p) i := if_neg (by omega)
          refine zs_iinc_8_11_1 91 rfl dX9_guesser_88 rfl rfl ?_
          rw [nI_add]
          refine z_goto 50 dX9_guesser_91 rfl ?_
          have hih := ih (i + 1) (by omega) (by omega) (some (.long (lN (lkF S p i)))) τ1 hF2 hX1
          rw [er, es] at hih
          exact hih
        · rw [lg_cmp_le] at h78
          rw [pk_lLE (by omega) (by omega)] at h78
          have er : mxv (lkF S p) (i + 1) = lkF S p i := if_pos (by omega)
          have es : amg (lkF S p) (i + 1) = i := if_pos (by omega)
          refine z_lload 83 dX9_guesser_81 rfl rfl ?_
          refine zs_lstore_4_11 85 rfl dX9_guesser_83 rfl rfl ?_
          refine z_iload 87 dX9_guesser_85 rfl rfl ?_
          refine zs_istore_n_3_11 88 rfl dX9_guesser_87 rfl rfl ?_
          refine zs_iinc_8_11_1 91 rfl dX9_guesser_88 rfl rfl ?_
          rw [nI_add]
          refine z_goto 50 dX9_guesser_91 rfl ?_
          have hih := ih (i + 1) (by omega) (by omega) (some (.long (lN (lkF S p i)))) τ1 hF2 hX1
          rw [er, es] at hih
          exact hih
  refine z_aload_n 1 dX9_guesser_0 rfl rfl ?_
  refine z_iload_n 2 dX9_guesser_1 rfl rfl ?_
  refine z_cVI1 5 (tX9_isPl (by assumption) (by assumption)) kX9_isPlayer dX9_guesser_2 rfl lX9_176 (by first | assumption | rfl) (Nat.le_of_ble_eq_true rfl) ?_
  rintro _ _ ⟨e1, e2⟩
  replace e1 := e1.symm
  replace e2 := e2.symm
  subst e1
  subst e2
  refine z_ifb_ne 10 8 dX9_guesser_5 (by decide) rfl (fun h5 => ?_) (fun h5 => ?_)
  · refine z_aload_n 11 dX9_guesser_10 rfl rfl ?_
    refine z_iload_n 12 dX9_guesser_11 rfl rfl ?_
    refine z_iconst 13 (v := nI 1) dX9_guesser_12 rfl rfl ?_
    refine z_cVI2 16 (tX9_leavesOf (k := true) hW hX hp) kX9_leavesOf dX9_guesser_13 rfl lX9_327 (by first | assumption | rfl) (Nat.le_of_ble_eq_true rfl) ?_
    rintro _ _ ⟨e1, e2⟩
    replace e1 := e1.symm
    replace e2 := e2.symm
    subst e1
    subst e2
    refine zs_istore_n_2_11 17 rfl dX9_guesser_16 rfl rfl ?_
    refine z_iload_n 18 dX9_guesser_17 rfl rfl ?_
    refine z_bipush 20 (v := nI 8) dX9_guesser_18 rfl rfl ?_
    refine z_icmp_le 26 23 dX9_guesser_20 (by decide) rfl (fun h20 => ?_) (fun h20 => ?_)
    · (try rw [nI_leI (by omega) (by omega)] at h20)
      refine z_iload_n 27 dX9_guesser_26 rfl rfl ?_
      refine z_if_ne 39 30 dX9_guesser_27 (by decide) rfl (fun h27 => ?_) (fun h27 => ?_)
      · (try rw [nI_eq0 (by omega)] at h27)
        refine z_iconst 40 (v := nI 0) dX9_guesser_39 rfl rfl ?_
        refine zs_istore_n_3_11 41 rfl dX9_guesser_40 rfl rfl ?_
        refine z_lconst 42 (v := 0) dX9_guesser_41 rfl rfl ?_
        refine zs_lstore_4_11 44 rfl dX9_guesser_42 rfl rfl ?_
        refine z_lconst 45 (v := 0) dX9_guesser_44 rfl rfl ?_
        refine zs_lstore_6_11 47 rfl dX9_guesser_45 rfl rfl ?_
        refine z_iconst 48 (v := nI 0) dX9_guesser_47 rfl rfl ?_
        refine zs_istore_8_11 50 rfl dX9_guesser_48 rfl rfl ?_
        exact loop 0 (Nat.zero_le _) _ σ Fr.rf hX
      · (try rw [nI_eq0 (by omega)] at h27)
        exact absurd h27 hZ
    · (try rw [nI_leI (by omega) (by omega)] at h20)
      omega
  · exact absurd hA' h5
