def bgI (f : Nat → Nat) (i : Nat) : Int32 := if mxv f i = 0 then -9 else nI (amg f i)
theorem fsum_mxv {f : Nat → Nat} : ∀ n, mxv f n = 0 → fsum f n = 0 := by
  intro n
  induction n with
  | zero => intro _; rfl
  | succ n ih =>
    intro h
    rw [mxv] at h
    by_cases hl : mxv f n < f n
    · rw [if_pos hl] at h
      omega
    · rw [if_neg hl] at h
      have h1 := ih h
      rw [fsum]
      omega
set_option maxRecDepth 20000 in
theorem tX10_guesser {E : zE} {d : Nat} {σ : zM} {S : sS} {p : Int32} (hW : WF S) (hX : RM S σ) : Ret E mX10_guesser (d + 7) [zr E 102, .int p] σ (qM σ (spGuesser S p)) := by
  have h8 := hW.2.1.1
  have h12 := hW.2.2.1
  by_cases hA : ¬ inN p (sPc S)
  · refine Ret.of [some (zr E 102), some (.int p), none, none, none, none, none, none, none, none, none, none] (by decide +kernel) (Nat.le_of_ble_eq_true rfl) rfl ?_
    refine z_aload_n 1 dX10_guesser_0 rfl rfl ?_
    refine z_iload_n 2 dX10_guesser_1 rfl rfl ?_
    refine z_cVI1 5 (tX10_isPlayer (by assumption) (by assumption)) kX10_isPlayer dX10_guesser_2 rfl lX10_162 (by first | assumption | rfl) (Nat.le_of_ble_eq_true rfl) ?_
    rintro _ _ ⟨e1, e2⟩
    replace e1 := e1.symm
    replace e2 := e2.symm
    subst e1
    subst e2
    refine z_ifb_ne 10 8 dX10_guesser_5 (by decide) rfl (fun h5 => ?_) (fun h5 => ?_)
    · exact absurd h5 hA
    · refine z_iconst 9 (v := (-1)) dX10_guesser_8 rfl rfl ?_
      refine z_ri dX10_guesser_9 rfl ?_
      exact qm0 (if_pos hA) hX Fr.rf
  have e0 : spGuesser S p = _ := if_neg hA
  have hA := Classical.not_not.mp hA
  have hA' := hA
  obtain ⟨p, hp, rfl⟩ := inN_of hA
  rw [zx_nI (by omega)] at e0
  have hlv := lvs_le S true p (sLc S)
  refine Ret.of [some (zr E 102), some (.int (nI p)), none, none, none, none, none, none, none, none, none, none] (by decide +kernel) (Nat.le_of_ble_eq_true rfl) rfl ?_
  by_cases hB : 8 < lvs S true p (sLc S)
  · rw [if_pos hB] at e0
    refine z_aload_n 1 dX10_guesser_0 rfl rfl ?_
    refine z_iload_n 2 dX10_guesser_1 rfl rfl ?_
    refine z_cVI1 5 (tX10_isPlayer (by assumption) (by assumption)) kX10_isPlayer dX10_guesser_2 rfl lX10_162 (by first | assumption | rfl) (Nat.le_of_ble_eq_true rfl) ?_
    rintro _ _ ⟨e1, e2⟩
    replace e1 := e1.symm
    replace e2 := e2.symm
    subst e1
    subst e2
    refine z_ifb_ne 10 8 dX10_guesser_5 (by decide) rfl (fun h5 => ?_) (fun h5 => ?_)
    · refine z_aload_n 11 dX10_guesser_10 rfl rfl ?_
      refine z_iconst 12 (v := nI 1) dX10_guesser_11 rfl rfl ?_
      refine z_iload_n 13 dX10_guesser_12 rfl rfl ?_
      refine z_cVI2 16 (tX10_leavesOf (k := true) hW hX hp) kX10_leavesOf dX10_guesser_13 rfl lX10_310 (by first | assumption | rfl) (Nat.le_of_ble_eq_true rfl) ?_
      rintro _ _ ⟨e1, e2⟩
      replace e1 := e1.symm
      replace e2 := e2.symm
      subst e1
      subst e2
      refine zs_istore_n_2_12 17 rfl dX10_guesser_16 rfl rfl ?_
      refine z_iload_n 18 dX10_guesser_17 rfl rfl ?_
      refine z_bipush 20 (v := nI 8) dX10_guesser_18 rfl rfl ?_
      refine z_icmp_le 26 23 dX10_guesser_20 (by decide) rfl (fun h20 => ?_) (fun h20 => ?_)
      · (try rw [nI_leI (by omega) (by omega)] at h20)
        omega
      · (try rw [nI_leI (by omega) (by omega)] at h20)
        refine z_bipush 25 (v := (-6)) dX10_guesser_23 rfl rfl ?_
        refine z_ri dX10_guesser_25 rfl ?_
        exact qm0 e0 hX Fr.rf
    · exact absurd hA' h5
  rw [if_neg hB] at e0
  by_cases hZ : lvs S true p (sLc S) = 0
  · rw [if_pos hZ] at e0
    refine z_aload_n 1 dX10_guesser_0 rfl rfl ?_
    refine z_iload_n 2 dX10_guesser_1 rfl rfl ?_
    refine z_cVI1 5 (tX10_isPlayer (by assumption) (by assumption)) kX10_isPlayer dX10_guesser_2 rfl lX10_162 (by first | assumption | rfl) (Nat.le_of_ble_eq_true rfl) ?_
    rintro _ _ ⟨e1, e2⟩
    replace e1 := e1.symm
    replace e2 := e2.symm
    subst e1
    subst e2
    refine z_ifb_ne 10 8 dX10_guesser_5 (by decide) rfl (fun h5 => ?_) (fun h5 => ?_)
    · refine z_aload_n 11 dX10_guesser_10 rfl rfl ?_
      refine z_iconst 12 (v := nI 1) dX10_guesser_11 rfl rfl ?_
      refine z_iload_n 13 dX10_guesser_12 rfl rfl ?_
      refine z_cVI2 16 (tX10_leavesOf (k := true) hW hX hp) kX10_leavesOf dX10_guesser_13 rfl lX10_310 (by first | assumption | rfl) (Nat.le_of_ble_eq_true rfl) ?_
      rintro _ _ ⟨e1, e2⟩
      replace e1 := e1.symm
      replace e2 := e2.symm
      subst e1
      subst e2
      refine zs_istore_n_2_12 17 rfl dX10_guesser_16 rfl rfl ?_
      refine z_iload_n 18 dX10_guesser_17 rfl rfl ?_
      refine z_bipush 20 (v := nI 8) dX10_guesser_18 rfl rfl ?_
      refine z_icmp_le 26 23 dX10_guesser_20 (by decide) rfl (fun h20 => ?_) (fun h20 => ?_)
      · (try rw [nI_leI (by omega) (by omega)] at h20)
        refine z_bipush 28 (v := (-9)) dX10_guesser_26 rfl rfl ?_
        refine zs_istore_n_3_12 29 rfl dX10_guesser_28 rfl rfl ?_
        refine z_lconst 30 (v := 0) dX10_guesser_29 rfl rfl ?_
        refine zs_lstore_4_12 32 rfl dX10_guesser_30 rfl rfl ?_
        refine z_lconst 33 (v := 0) dX10_guesser_32 rfl rfl ?_
        refine zs_lstore_6_12 35 rfl dX10_guesser_33 rfl rfl ?_
        refine z_iconst 36 (v := nI 0) dX10_guesser_35 rfl rfl ?_
        refine zs_istore_8_12 38 rfl dX10_guesser_36 rfl rfl ?_
        refine z_iload 40 dX10_guesser_38 rfl rfl ?_
        refine z_bipush 42 (v := nI 6) dX10_guesser_40 rfl rfl ?_
        refine z_icmp_ge 151 45 dX10_guesser_42 (by decide) rfl (fun h42 => ?_) (fun h42 => ?_)
        · (try rw [nI_leI (by omega) (by omega)] at h42)
          omega
        · (try rw [nI_leI (by omega) (by omega)] at h42)
          refine z_iload_n 46 dX10_guesser_45 rfl rfl ?_
          refine z_if_le 151 49 dX10_guesser_46 (by decide) rfl (fun h46 => ?_) (fun h46 => ?_)
          · (try rw [nI_le0 (by omega)] at h46)
            refine z_lload 153 dX10_guesser_151 rfl rfl ?_
            refine z_lconst 154 (v := 0) dX10_guesser_153 rfl rfl ?_
            refine z_lcmp 155 dX10_guesser_154 rfl ?_
            refine z_if_ne 166 158 dX10_guesser_155 (by decide) rfl (fun h155 => ?_) (fun h155 => ?_)
            · rw [lg_cmp_eq] at h155
              exact absurd rfl h155
            · rw [lg_cmp_eq] at h155
              refine z_aload_n 159 dX10_guesser_158 rfl rfl ?_
              refine z_iconst 160 (v := nI 4) dX10_guesser_159 rfl rfl ?_
              refine z_cVI1 163 (tX10_meets (by omega)) kX10_meets dX10_guesser_160 rfl lX10_99 (by first | assumption | rfl) (Nat.le_of_ble_eq_true rfl) ?_
              rintro _ _ ⟨e1, e2⟩
              replace e1 := e1.symm
              replace e2 := e2.symm
              subst e1
              subst e2
              refine z_goto 175 dX10_guesser_163 rfl ?_
              refine z_ri dX10_guesser_175 rfl ?_
              exact qmf hW e0 (by decide) hX Fr.rf
          · (try rw [nI_le0 (by omega)] at h46)
            omega
      · (try rw [nI_leI (by omega) (by omega)] at h20)
        omega
    · exact absurd hA' h5
  rw [if_neg hZ] at e0
  have hob := lkF_le hW hp (by omega)
  have hsb : ∀ k, fsum (lkF S p) k ≤ 110075314176 * k := fun k => fsum_bd k (fun i _ => hob i)
  have hmb : ∀ k, mxv (lkF S p) k ≤ 110075314176 := fun k => mxv_le k (fun i _ => hob i)
  have outer : ∀ i, i ≤ 6 → ∀ y9 y11 τ, Fr mS σ τ → RM S τ → At E mX10_guesser (d + 7) (qM σ (spGuesser S (nI p))) 38 [some (zr E 102), some (.int (nI p)), some (.int (nI (lvs S true p (sLc S)))), some (.int (bgI (lkF S p) i)), some (.long (lN (mxv (lkF S p) i))), none, some (.long (lN (fsum (lkF S p) i))), none, some (.int (nI i)), y9, none, y11] [] τ := by
    refine z_up (fun i hi oh y9 y11 τ hF hR => ?_)
    have m1 := hsb i
    have m2 := hmb i
    have m3 := hob i
    by_cases hie : i = 6
    · subst hie
      by_cases hs0 : fsum (lkF S p) 6 = 0
      · rw [if_pos hs0] at e0
        refine z_iload 40 dX10_guesser_38 rfl rfl ?_
        refine z_bipush 42 (v := nI 6) dX10_guesser_40 rfl rfl ?_
        refine z_icmp_ge 151 45 dX10_guesser_42 (by decide) rfl (fun h42 => ?_) (fun h42 => ?_)
        · (try rw [nI_leI (by omega) (by omega)] at h42)
          refine z_lload 153 dX10_guesser_151 rfl rfl ?_
          rw [hs0]
          refine z_lconst 154 (v := 0) dX10_guesser_153 rfl rfl ?_
          refine z_lcmp 155 dX10_guesser_154 rfl ?_
          refine z_if_ne 166 158 dX10_guesser_155 (by decide) rfl (fun h155 => ?_) (fun h155 => ?_)
          · rw [lg_cmp_eq] at h155
            exact absurd rfl h155
          · rw [lg_cmp_eq] at h155
            refine z_aload_n 159 dX10_guesser_158 rfl rfl ?_
            refine z_iconst 160 (v := nI 4) dX10_guesser_159 rfl rfl ?_
            refine z_cVI1 163 (tX10_meets (by omega)) kX10_meets dX10_guesser_160 rfl lX10_99 (by first | assumption | rfl) (Nat.le_of_ble_eq_true rfl) ?_
            rintro _ _ ⟨e1, e2⟩
            replace e1 := e1.symm
            replace e2 := e2.symm
            subst e1
            subst e2
            refine z_goto 175 dX10_guesser_163 rfl ?_
            refine z_ri dX10_guesser_175 rfl ?_
            exact qmf hW e0 (by decide) hR (hF.mono (by unfold mS; intros; omega))
        · (try rw [nI_leI (by omega) (by omega)] at h42)
          omega
      · rw [if_neg hs0] at e0
        have hbg : bgI (lkF S p) 6 = nI (amg (lkF S p) 6) := if_neg (fun z => hs0 (fsum_mxv 6 z))
        rw [hbg]
        refine z_iload 40 dX10_guesser_38 rfl rfl ?_
        refine z_bipush 42 (v := nI 6) dX10_guesser_40 rfl rfl ?_
        refine z_icmp_ge 151 45 dX10_guesser_42 (by decide) rfl (fun h42 => ?_) (fun h42 => ?_)
        · (try rw [nI_leI (by omega) (by omega)] at h42)
          refine z_lload 153 dX10_guesser_151 rfl rfl ?_
          refine z_lconst 154 (v := 0) dX10_guesser_153 rfl rfl ?_
          refine z_lcmp 155 dX10_guesser_154 rfl ?_
          refine z_if_ne 166 158 dX10_guesser_155 (by decide) rfl (fun h155 => ?_) (fun h155 => ?_)
          · rw [lg_cmp_eq] at h155
            refine z_aload_n 167 dX10_guesser_166 rfl rfl ?_
            refine z_lload 169 dX10_guesser_167 rfl rfl ?_
            refine z_lload 171 dX10_guesser_169 rfl rfl ?_
            refine z_iload_n 172 dX10_guesser_171 rfl rfl ?_
            refine z_cVI3 175 (tX10_part (by omega) (by omega) (by omega)) kX10_part dX10_guesser_172 rfl lX10_248 (by first | assumption | rfl) (Nat.le_of_ble_eq_true rfl) ?_
            rintro _ _ ⟨e1, e2⟩
            replace e1 := e1.symm
            replace e2 := e2.symm
            subst e1
            subst e2
            refine z_ri dX10_guesser_175 rfl ?_
            exact qmt hW e0 hR (hF.mono (by unfold mS; intros; omega))
          · rw [lg_cmp_eq] at h155
            exact absurd ((pk_lEQ (by omega) (by decide)).mp h155) hs0
        · (try rw [nI_leI (by omega) (by omega)] at h42)
          omega
    · have hi6 : i < 6 := by omega
      have inner : ∀ j, j ≤ sLc S → ∀ τ, Fr mS σ τ → RM S τ → mPy τ 8 (lk S p i) → At E mX10_guesser (d + 7) (qM σ (spGuesser S (nI p))) 62 [some (zr E 102), some (.int (nI p)), some (.int (nI (lvs S true p (sLc S)))), some (.int (bgI (lkF S p) i)), some (.long (lN (mxv (lkF S p) i))), none, some (.long (lN (fsum (lkF S p) i))), none, some (.int (nI i)), some (.long (lN (lik S p i j))), none, some (.int (nI j))] [] τ := by
        refine z_up (fun j hj ih τ hF hR hP => ?_)
        have hlc : gi τ 102 35 = nI (sLc S) := hR.2.2.2.2.1.1
        by_cases hje : j = sLc S
        · subst hje
          rw [show lik S p i (sLc S) = lkF S p i from rfl]
          refine z_iload 64 dX10_guesser_62 rfl rfl ?_
          refine z_aload_n 65 dX10_guesser_64 rfl rfl ?_
          refine gX10_141 68 rfl dX10_guesser_65 rfl ?_
          rw [hlc]
          refine z_icmp_ge 106 71 dX10_guesser_68 (by decide) rfl (fun h68 => ?_) (fun h68 => ?_)
          · (try rw [nI_leI (by omega) (by omega)] at h68)
            refine z_lload 108 dX10_guesser_106 rfl rfl ?_
            refine z_lload 110 dX10_guesser_108 rfl rfl ?_
            refine z_ladd 111 dX10_guesser_110 rfl ?_
            rw [lN_add]
            refine zs_lstore_6_12 113 rfl dX10_guesser_111 rfl rfl ?_
            refine z_lload 115 dX10_guesser_113 rfl rfl ?_
            refine z_lload 117 dX10_guesser_115 rfl rfl ?_
            refine z_lcmp 118 dX10_guesser_117 rfl ?_
            refine z_if_le 126 121 dX10_guesser_118 (by decide) rfl (fun h118 => ?_) (fun h118 => ?_)
            · rw [lg_cmp_le] at h118
              rw [pk_lLE (by omega) (by omega)] at h118
              refine z_iload_n 127 dX10_guesser_126 rfl rfl ?_
              refine zs_istore_n_3_12 128 rfl dX10_guesser_127 rfl rfl ?_
              refine z_lload 130 dX10_guesser_128 rfl rfl ?_
              refine z_lload 132 dX10_guesser_130 rfl rfl ?_
              refine z_lcmp 133 dX10_guesser_132 rfl ?_
              refine z_if_le 141 136 dX10_guesser_133 (by decide) rfl (fun h133 => ?_) (fun h133 => ?_)
              · rw [lg_cmp_le] at h133
                rw [pk_lLE (by omega) (by omega)] at h133
                refine z_lload 143 dX10_guesser_141 rfl rfl ?_
                refine zs_lstore_4_12 145 rfl dX10_guesser_143 rfl rfl ?_
                refine zs_iinc_8_12_1 148 rfl dX10_guesser_145 rfl rfl ?_
                rw [nI_add]
                refine z_goto 38 dX10_guesser_148 rfl ?_
                first
                  | (exfalso; omega)
                  | (have er : mxv (lkF S p) (i + 1) = mxv (lkF S p) i := if_neg (by omega)
                     have es : amg (lkF S p) (i + 1) = amg (lkF S p) i := if_neg (by omega)
                     have hih := oh (i + 1) (by omega) (by omega) (some (.long (lN (lkF S p i)))) (some (.int (nI (sLc S)))) τ hF hR
                     rw [show bgI (lkF S p) (i + 1) = bgI (lkF S p) i by unfold bgI; rw [er, es], er] at hih
                     exact hih)
                  | (have er : mxv (lkF S p) (i + 1) = lkF S p i := if_pos (by omega)
                     have es : amg (lkF S p) (i + 1) = i := if_pos (by omega)
                     have hih := oh (i + 1) (by omega) (by omega) (some (.long (lN (lkF S p i)))) (some (.int (nI (sLc S)))) τ hF hR
                     rw [show bgI (lkF S p) (i + 1) = nI i by unfold bgI; rw [er, es, if_neg (by omega)], er] at hih
                     exact hih)
              · rw [lg_cmp_le] at h133
                rw [pk_lLE (by omega) (by omega)] at h133
                refine z_lload 138 dX10_guesser_136 rfl rfl ?_
                refine z_goto 143 dX10_guesser_138 rfl ?_
                refine zs_lstore_4_12 145 rfl dX10_guesser_143 rfl rfl ?_
                refine zs_iinc_8_12_1 148 rfl dX10_guesser_145 rfl rfl ?_
                rw [nI_add]
                refine z_goto 38 dX10_guesser_148 rfl ?_
                first
                  | (exfalso; omega)
                  | (have er : mxv (lkF S p) (i + 1) = mxv (lkF S p) i := if_neg (by omega)
                     have es : amg (lkF S p) (i + 1) = amg (lkF S p) i := if_neg (by omega)
                     have hih := oh (i + 1) (by omega) (by omega) (some (.long (lN (lkF S p i)))) (some (.int (nI (sLc S)))) τ hF hR
                     rw [show bgI (lkF S p) (i + 1) = bgI (lkF S p) i by unfold bgI; rw [er, es], er] at hih
                     exact hih)
                  | (have er : mxv (lkF S p) (i + 1) = lkF S p i := if_pos (by omega)
                     have es : amg (lkF S p) (i + 1) = i := if_pos (by omega)
                     have hih := oh (i + 1) (by omega) (by omega) (some (.long (lN (lkF S p i)))) (some (.int (nI (sLc S)))) τ hF hR
                     rw [show bgI (lkF S p) (i + 1) = nI i by unfold bgI; rw [er, es, if_neg (by omega)], er] at hih
                     exact hih)
            · rw [lg_cmp_le] at h118
              rw [pk_lLE (by omega) (by omega)] at h118
              refine z_iload 123 dX10_guesser_121 rfl rfl ?_
              refine z_goto 127 dX10_guesser_123 rfl ?_
              refine zs_istore_n_3_12 128 rfl dX10_guesser_127 rfl rfl ?_
              refine z_lload 130 dX10_guesser_128 rfl rfl ?_
              refine z_lload 132 dX10_guesser_130 rfl rfl ?_
              refine z_lcmp 133 dX10_guesser_132 rfl ?_
              refine z_if_le 141 136 dX10_guesser_133 (by decide) rfl (fun h133 => ?_) (fun h133 => ?_)
              · rw [lg_cmp_le] at h133
                rw [pk_lLE (by omega) (by omega)] at h133
                refine z_lload 143 dX10_guesser_141 rfl rfl ?_
                refine zs_lstore_4_12 145 rfl dX10_guesser_143 rfl rfl ?_
                refine zs_iinc_8_12_1 148 rfl dX10_guesser_145 rfl rfl ?_
                rw [nI_add]
                refine z_goto 38 dX10_guesser_148 rfl ?_
                first
                  | (exfalso; omega)
                  | (have er : mxv (lkF S p) (i + 1) = mxv (lkF S p) i := if_neg (by omega)
                     have es : amg (lkF S p) (i + 1) = amg (lkF S p) i := if_neg (by omega)
                     have hih := oh (i + 1) (by omega) (by omega) (some (.long (lN (lkF S p i)))) (some (.int (nI (sLc S)))) τ hF hR
                     rw [show bgI (lkF S p) (i + 1) = bgI (lkF S p) i by unfold bgI; rw [er, es], er] at hih
                     exact hih)
                  | (have er : mxv (lkF S p) (i + 1) = lkF S p i := if_pos (by omega)
                     have es : amg (lkF S p) (i + 1) = i := if_pos (by omega)
                     have hih := oh (i + 1) (by omega) (by omega) (some (.long (lN (lkF S p i)))) (some (.int (nI (sLc S)))) τ hF hR
                     rw [show bgI (lkF S p) (i + 1) = nI i by unfold bgI; rw [er, es, if_neg (by omega)], er] at hih
                     exact hih)
              · rw [lg_cmp_le] at h133
                rw [pk_lLE (by omega) (by omega)] at h133
                refine z_lload 138 dX10_guesser_136 rfl rfl ?_
                refine z_goto 143 dX10_guesser_138 rfl ?_
                refine zs_lstore_4_12 145 rfl dX10_guesser_143 rfl rfl ?_
                refine zs_iinc_8_12_1 148 rfl dX10_guesser_145 rfl rfl ?_
                rw [nI_add]
                refine z_goto 38 dX10_guesser_148 rfl ?_
                first
                  | (exfalso; omega)
                  | (have er : mxv (lkF S p) (i + 1) = mxv (lkF S p) i := if_neg (by omega)
                     have es : amg (lkF S p) (i + 1) = amg (lkF S p) i := if_neg (by omega)
                     have hih := oh (i + 1) (by omega) (by omega) (some (.long (lN (lkF S p i)))) (some (.int (nI (sLc S)))) τ hF hR
                     rw [show bgI (lkF S p) (i + 1) = bgI (lkF S p) i by unfold bgI; rw [er, es], er] at hih
                     exact hih)
                  | (have er : mxv (lkF S p) (i + 1) = lkF S p i := if_pos (by omega)
                     have es : amg (lkF S p) (i + 1) = i := if_pos (by omega)
                     have hih := oh (i + 1) (by omega) (by omega) (some (.long (lN (lkF S p i)))) (some (.int (nI (sLc S)))) τ hF hR
                     rw [show bgI (lkF S p) (i + 1) = nI i by unfold bgI; rw [er, es, if_neg (by omega)], er] at hih
                     exact hih)
          · (try rw [nI_leI (by omega) (by omega)] at h68)
            omega
        · have hjl : j < sLc S := by omega
          have hsl := shL_le hW hp hjl i
          refine z_iload 64 dX10_guesser_62 rfl rfl ?_
          refine z_aload_n 65 dX10_guesser_64 rfl rfl ?_
          refine gX10_141 68 rfl dX10_guesser_65 rfl ?_
          rw [hlc]
          refine z_icmp_ge 106 71 dX10_guesser_68 (by decide) rfl (fun h68 => ?_) (fun h68 => ?_)
          · (try rw [nI_leI (by omega) (by omega)] at h68)
            omega
          · (try rw [nI_leI (by omega) (by omega)] at h68)
            refine z_lload 73 dX10_guesser_71 rfl rfl ?_
            refine z_aload_n 74 dX10_guesser_73 rfl rfl ?_
            refine z_iload 76 dX10_guesser_74 rfl rfl ?_
            refine z_iconst 77 (v := nI 1) dX10_guesser_76 rfl rfl ?_
            refine z_iload_n 78 dX10_guesser_77 rfl rfl ?_
            refine z_cVI3 81 (tX10_isLeafOf (k := true) hW hR hjl hp) kX10_isLeafOf dX10_guesser_78 rfl lX10_307 (by first | assumption | rfl) (Nat.le_of_ble_eq_true rfl) ?_
            rintro _ _ ⟨e1, e2⟩
            replace e1 := e1.symm
            replace e2 := e2.symm
            subst e1
            subst e2
            refine z_ifb_eq 96 84 dX10_guesser_81 (by decide) rfl (fun h81 => ?_) (fun h81 => ?_)
            · have er : lik S p i (j + 1) = lik S p i j * 1 := by (show lik S p i j * (if lOf S true p j then shL S p i j else 1) = _; rw [if_neg h81])
              refine z_lconst 97 (v := 1) dX10_guesser_96 rfl rfl ?_
              refine z_lmul 98 dX10_guesser_97 rfl ?_
              try rw [lN_mul]
              refine zs_lstore_9_12 100 rfl dX10_guesser_98 rfl rfl ?_
              refine zs_iinc_11_12_1 103 rfl dX10_guesser_100 rfl rfl ?_
              rw [nI_add]
              refine z_goto 62 dX10_guesser_103 rfl ?_
              first
                | (have hih := ih (j + 1) (by omega) (by omega) τ1 (hF.tr hF1 (fun _ _ h => h) (by unfold mS; intros; omega)) hX1 (hP.fr hF1 (by intros; omega))
                   rw [er] at hih
                   exact hih)
                | (have hih := ih (j + 1) (by omega) (by omega) τ hF hR hP
                   rw [er, ← lN_mul] at hih
                   exact hih)
            · have er : lik S p i (j + 1) = lik S p i j * shL S p i j := by (show lik S p i j * (if lOf S true p j then shL S p i j else 1) = _; rw [if_pos h81])
              refine z_aload_n 85 dX10_guesser_84 rfl rfl ?_
              refine z_bipush 87 (v := nI 8) dX10_guesser_85 rfl rfl ?_
              refine z_iload 89 dX10_guesser_87 rfl rfl ?_
              refine z_cVI2 92 (tX10_shareByLeaf hW hR hp hi6 hP hjl) kX10_shareByLeaf dX10_guesser_89 rfl lX10_316 (by first | assumption | rfl) (Nat.le_of_ble_eq_true rfl) ?_
              rintro _ τ1 ⟨e1, hF1, hX1⟩
              subst e1
              refine z_i2l 93 dX10_guesser_92 rfl ?_
              rw [nI_l (by omega)]
              refine z_goto 97 dX10_guesser_93 rfl ?_
              refine z_lmul 98 dX10_guesser_97 rfl ?_
              try rw [lN_mul]
              refine zs_lstore_9_12 100 rfl dX10_guesser_98 rfl rfl ?_
              refine zs_iinc_11_12_1 103 rfl dX10_guesser_100 rfl rfl ?_
              rw [nI_add]
              refine z_goto 62 dX10_guesser_103 rfl ?_
              first
                | (have hih := ih (j + 1) (by omega) (by omega) τ1 (hF.tr hF1 (fun _ _ h => h) (by unfold mS; intros; omega)) hX1 (hP.fr hF1 (by intros; omega))
                   rw [er] at hih
                   exact hih)
                | (have hih := ih (j + 1) (by omega) (by omega) τ hF hR hP
                   rw [er, ← lN_mul] at hih
                   exact hih)
      refine z_iload 40 dX10_guesser_38 rfl rfl ?_
      refine z_bipush 42 (v := nI 6) dX10_guesser_40 rfl rfl ?_
      refine z_icmp_ge 151 45 dX10_guesser_42 (by decide) rfl (fun h42 => ?_) (fun h42 => ?_)
      · (try rw [nI_leI (by omega) (by omega)] at h42)
        omega
      · (try rw [nI_leI (by omega) (by omega)] at h42)
        refine z_iload_n 46 dX10_guesser_45 rfl rfl ?_
        refine z_if_le 151 49 dX10_guesser_46 (by decide) rfl (fun h46 => ?_) (fun h46 => ?_)
        · (try rw [nI_le0 (by omega)] at h46)
          omega
        · (try rw [nI_le0 (by omega)] at h46)
          refine z_aload_n 50 dX10_guesser_49 rfl rfl ?_
          refine z_iload_n 51 dX10_guesser_50 rfl rfl ?_
          refine z_iload 53 dX10_guesser_51 rfl rfl ?_
          refine z_cVV2 56 (tX10_tryAs hW hR hp) kX10_tryAs dX10_guesser_53 rfl lX10_313 (by first | assumption | rfl) (Nat.le_of_ble_eq_true rfl) ?_
          rintro τ1 ⟨hF1, hX1, hP1⟩
          refine z_lconst 57 (v := 1) dX10_guesser_56 rfl rfl ?_
          refine zs_lstore_9_12 59 rfl dX10_guesser_57 rfl rfl ?_
          refine z_iconst 60 (v := nI 0) dX10_guesser_59 rfl rfl ?_
          refine zs_istore_11_12 62 rfl dX10_guesser_60 rfl rfl ?_
          exact inner 0 (Nat.zero_le _) τ1 (hF.tr hF1 (fun _ _ h => h) (by unfold mS; intros; omega)) hX1 hP1
  refine z_aload_n 1 dX10_guesser_0 rfl rfl ?_
  refine z_iload_n 2 dX10_guesser_1 rfl rfl ?_
  refine z_cVI1 5 (tX10_isPlayer (by assumption) (by assumption)) kX10_isPlayer dX10_guesser_2 rfl lX10_162 (by first | assumption | rfl) (Nat.le_of_ble_eq_true rfl) ?_
  rintro _ _ ⟨e1, e2⟩
  replace e1 := e1.symm
  replace e2 := e2.symm
  subst e1
  subst e2
  refine z_ifb_ne 10 8 dX10_guesser_5 (by decide) rfl (fun h5 => ?_) (fun h5 => ?_)
  · refine z_aload_n 11 dX10_guesser_10 rfl rfl ?_
    refine z_iconst 12 (v := nI 1) dX10_guesser_11 rfl rfl ?_
    refine z_iload_n 13 dX10_guesser_12 rfl rfl ?_
    refine z_cVI2 16 (tX10_leavesOf (k := true) hW hX hp) kX10_leavesOf dX10_guesser_13 rfl lX10_310 (by first | assumption | rfl) (Nat.le_of_ble_eq_true rfl) ?_
    rintro _ _ ⟨e1, e2⟩
    replace e1 := e1.symm
    replace e2 := e2.symm
    subst e1
    subst e2
    refine zs_istore_n_2_12 17 rfl dX10_guesser_16 rfl rfl ?_
    refine z_iload_n 18 dX10_guesser_17 rfl rfl ?_
    refine z_bipush 20 (v := nI 8) dX10_guesser_18 rfl rfl ?_
    refine z_icmp_le 26 23 dX10_guesser_20 (by decide) rfl (fun h20 => ?_) (fun h20 => ?_)
    · (try rw [nI_leI (by omega) (by omega)] at h20)
      refine z_bipush 28 (v := (-9)) dX10_guesser_26 rfl rfl ?_
      refine zs_istore_n_3_12 29 rfl dX10_guesser_28 rfl rfl ?_
      refine z_lconst 30 (v := 0) dX10_guesser_29 rfl rfl ?_
      refine zs_lstore_4_12 32 rfl dX10_guesser_30 rfl rfl ?_
      refine z_lconst 33 (v := 0) dX10_guesser_32 rfl rfl ?_
      refine zs_lstore_6_12 35 rfl dX10_guesser_33 rfl rfl ?_
      refine z_iconst 36 (v := nI 0) dX10_guesser_35 rfl rfl ?_
      refine zs_istore_8_12 38 rfl dX10_guesser_36 rfl rfl ?_
      exact outer 0 (Nat.zero_le _) _ _ σ Fr.rf hX
    · (try rw [nI_leI (by omega) (by omega)] at h20)
      omega
  · exact absurd hA' h5
