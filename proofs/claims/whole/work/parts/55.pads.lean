/-! pads of the reference -/
set_option maxRecDepth 20000 in
theorem tX10_askedPads {E : zE} {d : Nat} {σ : zM} {S : sS} {r b : Nat} (hW : WF S) (hX : RM S σ) (hr : r < 6) (hb : b < 6) : Ret E mX10_askedPads (d + 3) [zr E 102, .int (nI r), .int (nI b)] σ (qI fun x τ => (sPd S (sR S r) (sR S b) = 0 ∧ x = nI 0 ∧ Fr fT σ τ ∧ RM S τ ∧ mTb τ (sSz (sR S r)) (gOf (sR S r))) ∨ (¬ sPd S (sR S r) (sR S b) = 0 ∧ x = -3 ∧ ∃ τ1, Fr mAll σ τ1 ∧ RM S τ1 ∧ τ = mMt τ1 (sPd S (sR S r) (sR S b)))) := by
  have hSr : mSh σ 104 105 r 40 (sR S r) := hX.1 r hr
  have hSb : mSh σ 104 105 b 40 (sR S b) := hX.1 b hb
  refine Ret.of [some (zr E 102), some (.int (nI r)), some (.int (nI b)), none, none] (by decide +kernel) (Nat.le_of_ble_eq_true rfl) rfl ?_
  cases hor : sR S r with
  | none =>
    rw [hor] at hSr
    have hs : gi σ 104 r = -9 := hSr
    have e : sPd S none (sR S b) = 1 := if_pos (Or.inl rfl)
    refine z_aload_n 1 dX10_askedPads_0 rfl rfl ?_
    refine gX10_17 4 rfl dX10_askedPads_1 rfl ?_
    refine z_iload_n 5 dX10_askedPads_4 rfl rfl ?_
    refine z_ialdn 6 dX10_askedPads_5 rfl (by first | assumption | rfl) (by omega) ?_
    rw [hs]
    refine z_if_lt 18 9 dX10_askedPads_6 (by decide) rfl (fun h6 => ?_) (fun h6 => ?_)
    · refine z_aload_n 19 dX10_askedPads_18 rfl rfl ?_
      refine z_iconst 20 (v := nI 1) dX10_askedPads_19 rfl rfl ?_
      refine z_cVI1 23 (tX10_meets (by omega)) kX10_meets dX10_askedPads_20 rfl lX10_99 (by first | assumption | rfl) (Nat.le_of_ble_eq_true rfl) ?_
      rintro _ _ ⟨e1, e2⟩
      replace e1 := e1.symm
      replace e2 := e2.symm
      subst e1
      subst e2
      refine z_ri dX10_askedPads_23 rfl ?_
      exact Or.inr ⟨by rw [e]; decide, rfl, σ, Fr.rf, hX, by rw [e]⟩
    · exact absurd (by decide) h6
  | some q =>
    rw [hor] at hSr
    obtain ⟨c1, c2, c3⟩ := hSr
    cases hob : sR S b with
    | none =>
      rw [hob] at hSb
      have hs : gi σ 104 b = -9 := hSb
      have e : sPd S (some q) none = 1 := if_pos (Or.inr rfl)
      refine z_aload_n 1 dX10_askedPads_0 rfl rfl ?_
      refine gX10_17 4 rfl dX10_askedPads_1 rfl ?_
      refine z_iload_n 5 dX10_askedPads_4 rfl rfl ?_
      refine z_ialdn 6 dX10_askedPads_5 rfl (by first | assumption | rfl) (by omega) ?_
      rw [c2]
      refine z_if_lt 18 9 dX10_askedPads_6 (by decide) rfl (fun h6 => ?_) (fun h6 => ?_)
      · exact absurd h6 (nI_pos (by omega))
      · refine z_aload_n 10 dX10_askedPads_9 rfl rfl ?_
        refine gX10_17 13 rfl dX10_askedPads_10 rfl ?_
        refine z_iload_n 14 dX10_askedPads_13 rfl rfl ?_
        refine z_ialdn 15 dX10_askedPads_14 rfl (by first | assumption | rfl) (by omega) ?_
        rw [hs]
        refine z_if_ge 24 18 dX10_askedPads_15 (by decide) rfl (fun h15 => ?_) (fun h15 => ?_)
        · exact absurd h15 (by decide)
        · refine z_aload_n 19 dX10_askedPads_18 rfl rfl ?_
          refine z_iconst 20 (v := nI 1) dX10_askedPads_19 rfl rfl ?_
          refine z_cVI1 23 (tX10_meets (by omega)) kX10_meets dX10_askedPads_20 rfl lX10_99 (by first | assumption | rfl) (Nat.le_of_ble_eq_true rfl) ?_
          rintro _ _ ⟨e1, e2⟩
          replace e1 := e1.symm
          replace e2 := e2.symm
          subst e1
          subst e2
          refine z_ri dX10_askedPads_23 rfl ?_
          exact Or.inr ⟨by rw [e]; decide, rfl, σ, Fr.rf, hX, by rw [e]⟩
    | some p =>
      rw [hob] at hSb
      obtain ⟨g1, g2, g3⟩ := hSb
      have ed : sPd S (some q) (some p) = if ¬ (tbP q.1 ∧ p.1 = q.1) then 5 else if UB q.1 q.2 (sPc S) ∧ ∀ k, k < p.1 → inN (p.2 k) (sBw S 0) then 0 else 3 := if_neg (fun z => z.elim (fun y => nomatch y) (fun y => nomatch y))
      have ein : bI (decide (nI 2 ≤ nI q.1 ∧ nI q.1 ≤ nI 8)) = bI (decide (2 ≤ q.1 ∧ q.1 ≤ 8)) := bI_c (by rw [nI_leI (by omega) (by omega), nI_leI (by omega) (by omega)])
      by_cases hT : tbP q.1 ∧ p.1 = q.1
      · rw [if_neg (fun z => z hT)] at ed
        have h2 := hT.1.1
        have h8 := hT.1.2.1
        have hm := hT.1.2.2
        have hE := hT.2
        have run : UB q.1 q.2 (sPc S) → ∀ i, i ≤ p.1 → (∀ k, k < i → inN (p.2 k) (sBw S 0)) → ∀ τ, Fr fT σ τ → RM S τ → mTb τ (sSz (some q)) (gOf (some q)) → At E mX10_askedPads (d + 3) (qI fun x τ => (sPd S (some q) (some p) = 0 ∧ x = nI 0 ∧ Fr fT σ τ ∧ RM S τ ∧ mTb τ (sSz (some q)) (gOf (some q))) ∨ (¬ sPd S (some q) (some p) = 0 ∧ x = -3 ∧ ∃ τ1, Fr mAll σ τ1 ∧ RM S τ1 ∧ τ = mMt τ1 (sPd S (some q) (some p)))) 81 [some (zr E 102), some (.int (nI r)), some (.int (nI b)), some (.int (nI 0)), some (.int (nI i))] [] τ := by
          intro hU
          refine z_up (fun i hi ih hall τ hF hR hB => ?_)
          have hk : mSh τ 104 105 b 40 (some p) := by
            rw [← hob]
            exact hR.1 b hb
          by_cases hie : i = p.1
          · rw [hie] at hall
            refine z_iload 83 dX10_askedPads_81 rfl rfl ?_
            refine z_aload_n 84 dX10_askedPads_83 rfl rfl ?_
            refine gX10_17 87 rfl dX10_askedPads_84 rfl ?_
            refine z_iload_n 88 dX10_askedPads_87 rfl rfl ?_
            refine z_ialdn 89 dX10_askedPads_88 rfl (by first | assumption | rfl) (by omega) ?_
            rw [hk.2.1]
            refine z_icmp_ge 126 92 dX10_askedPads_89 (by decide) rfl (fun h89 => ?_) (fun h89 => ?_)
            · (try rw [nI_leI (by omega) (by omega)] at h89)
              refine z_iload_n 127 dX10_askedPads_126 rfl rfl ?_
              refine z_ri dX10_askedPads_127 rfl ?_
              exact Or.inl ⟨by rw [ed, if_pos ⟨hU, hall⟩], rfl, hF, hR, hB⟩
            · (try rw [nI_leI (by omega) (by omega)] at h89)
              omega
          · have good : inN (p.2 i) (sBw S 0) → At E mX10_askedPads (d + 3) (qI fun x τ => (sPd S (some q) (some p) = 0 ∧ x = nI 0 ∧ Fr fT σ τ ∧ RM S τ ∧ mTb τ (sSz (some q)) (gOf (some q))) ∨ (¬ sPd S (some q) (some p) = 0 ∧ x = -3 ∧ ∃ τ1, Fr mAll σ τ1 ∧ RM S τ1 ∧ τ = mMt τ1 (sPd S (some q) (some p)))) 119 [some (zr E 102), some (.int (nI r)), some (.int (nI b)), some (.int (nI 0)), some (.int (nI i))] [.int (nI 0)] τ := by
              intro hg
              refine zs_istore_n_3_5 120 rfl dX10_askedPads_119 rfl rfl ?_
              refine zs_iinc_4_5_1 123 rfl dX10_askedPads_120 rfl rfl ?_
              rw [nI_add]
              refine z_goto 81 dX10_askedPads_123 rfl ?_
              exact ih (i + 1) (by omega) (by omega) (fun k hk => by
                by_cases hki : k = i
                · rw [hki]; exact hg
                · exact hall k (by omega)) τ hF hR hB
            have bad : ¬ inN (p.2 i) (sBw S 0) → At E mX10_askedPads (d + 3) (qI fun x τ => (sPd S (some q) (some p) = 0 ∧ x = nI 0 ∧ Fr fT σ τ ∧ RM S τ ∧ mTb τ (sSz (some q)) (gOf (some q))) ∨ (¬ sPd S (some q) (some p) = 0 ∧ x = -3 ∧ ∃ τ1, Fr mAll σ τ1 ∧ RM S τ1 ∧ τ = mMt τ1 (sPd S (some q) (some p)))) 119 [some (zr E 102), some (.int (nI r)), some (.int (nI b)), some (.int (nI 0)), some (.int (nI i))] [.int (-3)] (mMt τ 3) := by
              intro hg
              have e3 : sPd S (some q) (some p) = 3 := by rw [ed, if_neg (fun z => hg (z.2 i (by omega)))]
              have hsz : gi (mMt τ 3) 104 b = nI p.1 := ((mMt_fr τ 3).gi (by omega)).trans hk.2.1
              refine zs_istore_n_3_5 120 rfl dX10_askedPads_119 rfl rfl ?_
              refine zs_iinc_4_5_1 123 rfl dX10_askedPads_120 rfl rfl ?_
              rw [nI_add]
              refine z_goto 81 dX10_askedPads_123 rfl ?_
              refine z_iload 83 dX10_askedPads_81 rfl rfl ?_
              refine z_aload_n 84 dX10_askedPads_83 rfl rfl ?_
              refine gX10_17 87 rfl dX10_askedPads_84 rfl ?_
              refine z_iload_n 88 dX10_askedPads_87 rfl rfl ?_
              refine z_ialdn 89 dX10_askedPads_88 rfl (by first | assumption | rfl) (by omega) ?_
              rw [hsz]
              refine z_icmp_ge 126 92 dX10_askedPads_89 (by decide) rfl (fun h89 => ?_) (fun h89 => ?_)
              · (try rw [nI_leI (by omega) (by omega)] at h89)
                refine z_iload_n 127 dX10_askedPads_126 rfl rfl ?_
                refine z_ri dX10_askedPads_127 rfl ?_
                exact Or.inr ⟨by rw [e3]; decide, rfl, τ, hF.mono (by intros; omega), hR, by rw [e3]⟩
              · (try rw [nI_leI (by omega) (by omega)] at h89)
                refine z_iload_n 93 dX10_askedPads_92 rfl rfl ?_
                refine z_if_ne 126 96 dX10_askedPads_93 (by decide) rfl (fun h93 => ?_) (fun h93 => ?_)
                · refine z_iload_n 127 dX10_askedPads_126 rfl rfl ?_
                  refine z_ri dX10_askedPads_127 rfl ?_
                  exact Or.inr ⟨by rw [e3]; decide, rfl, τ, hF.mono (by intros; omega), hR, by rw [e3]⟩
                · exact absurd h93 (by decide)
            refine z_iload 83 dX10_askedPads_81 rfl rfl ?_
            refine z_aload_n 84 dX10_askedPads_83 rfl rfl ?_
            refine gX10_17 87 rfl dX10_askedPads_84 rfl ?_
            refine z_iload_n 88 dX10_askedPads_87 rfl rfl ?_
            refine z_ialdn 89 dX10_askedPads_88 rfl (by first | assumption | rfl) (by omega) ?_
            rw [hk.2.1]
            refine z_icmp_ge 126 92 dX10_askedPads_89 (by decide) rfl (fun h89 => ?_) (fun h89 => ?_)
            · (try rw [nI_leI (by omega) (by omega)] at h89)
              omega
            · (try rw [nI_leI (by omega) (by omega)] at h89)
              refine z_iload_n 93 dX10_askedPads_92 rfl rfl ?_
              refine z_if_ne 126 96 dX10_askedPads_93 (by decide) rfl (fun h93 => ?_) (fun h93 => ?_)
              · exact absurd rfl h93
              · refine z_aload_n 97 dX10_askedPads_96 rfl rfl ?_
                refine z_aload_n 98 dX10_askedPads_97 rfl rfl ?_
                refine z_iload_n 99 dX10_askedPads_98 rfl rfl ?_
                refine z_iload 101 dX10_askedPads_99 rfl rfl ?_
                refine z_cVI2 104 (tX10_rowAt (by omega) (by omega)) kX10_rowAt dX10_askedPads_101 rfl lX10_113 (by first | assumption | rfl) (Nat.le_of_ble_eq_true rfl) ?_
                rintro _ _ ⟨e1, e2⟩
                replace e1 := e1.symm
                replace e2 := e2.symm
                subst e1
                subst e2
                rw [hk.2.2 i (by omega)]
                refine z_cVI1 107 (tX10_isWord (by assumption) (by assumption)) kX10_isWord dX10_askedPads_104 rfl lX10_151 (by first | assumption | rfl) (Nat.le_of_ble_eq_true rfl) ?_
                rintro _ _ ⟨e1, e2⟩
                replace e1 := e1.symm
                replace e2 := e2.symm
                subst e1
                subst e2
                refine z_ifb_eq 114 110 dX10_askedPads_107 (by decide) rfl (fun h107 => ?_) (fun h107 => ?_)
                · refine z_aload_n 115 dX10_askedPads_114 rfl rfl ?_
                  refine z_iconst 116 (v := nI 3) dX10_askedPads_115 rfl rfl ?_
                  refine z_cVI1 119 (tX10_meets (by omega)) kX10_meets dX10_askedPads_116 rfl lX10_99 (by first | assumption | rfl) (Nat.le_of_ble_eq_true rfl) ?_
                  rintro _ _ ⟨e1, e2⟩
                  replace e1 := e1.symm
                  replace e2 := e2.symm
                  subst e1
                  subst e2
                  first | exact good h107 | exact bad h107
                · refine z_iconst 111 (v := nI 0) dX10_askedPads_110 rfl rfl ?_
                  refine z_goto 119 dX10_askedPads_111 rfl ?_
                  first | exact good h107 | exact bad h107
        have ok77 : UB q.1 q.2 (sPc S) → ∀ τ, Fr fT σ τ → RM S τ → mTb τ (sSz (some q)) (gOf (some q)) → At E mX10_askedPads (d + 3) (qI fun x τ => (sPd S (some q) (some p) = 0 ∧ x = nI 0 ∧ Fr fT σ τ ∧ RM S τ ∧ mTb τ (sSz (some q)) (gOf (some q))) ∨ (¬ sPd S (some q) (some p) = 0 ∧ x = -3 ∧ ∃ τ1, Fr mAll σ τ1 ∧ RM S τ1 ∧ τ = mMt τ1 (sPd S (some q) (some p)))) 77 [some (zr E 102), some (.int (nI r)), some (.int (nI b)), none, none] [.int (nI 0)] τ := by
          intro hU τ hF hR hB
          refine zs_istore_n_3_5 78 rfl dX10_askedPads_77 rfl rfl ?_
          refine z_iconst 79 (v := nI 0) dX10_askedPads_78 rfl rfl ?_
          refine zs_istore_4_5 81 rfl dX10_askedPads_79 rfl rfl ?_
          exact run hU 0 (Nat.zero_le _) (fun k hk => absurd hk (Nat.not_lt_zero k)) τ hF hR hB
        have no77 : ¬ UB q.1 q.2 (sPc S) → At E mX10_askedPads (d + 3) (qI fun x τ => (sPd S (some q) (some p) = 0 ∧ x = nI 0 ∧ Fr fT σ τ ∧ RM S τ ∧ mTb τ (sSz (some q)) (gOf (some q))) ∨ (¬ sPd S (some q) (some p) = 0 ∧ x = -3 ∧ ∃ τ1, Fr mAll σ τ1 ∧ RM S τ1 ∧ τ = mMt τ1 (sPd S (some q) (some p)))) 77 [some (zr E 102), some (.int (nI r)), some (.int (nI b)), none, none] [.int (-3)] (mMt σ 3) := by
          intro hU
          have e3 : sPd S (some q) (some p) = 3 := by rw [ed, if_neg (fun z => hU z.1)]
          have hsz : gi (mMt σ 3) 104 b = nI p.1 := ((mMt_fr σ 3).gi (by omega)).trans g2
          refine zs_istore_n_3_5 78 rfl dX10_askedPads_77 rfl rfl ?_
          refine z_iconst 79 (v := nI 0) dX10_askedPads_78 rfl rfl ?_
          refine zs_istore_4_5 81 rfl dX10_askedPads_79 rfl rfl ?_
          refine z_iload 83 dX10_askedPads_81 rfl rfl ?_
          refine z_aload_n 84 dX10_askedPads_83 rfl rfl ?_
          refine gX10_17 87 rfl dX10_askedPads_84 rfl ?_
          refine z_iload_n 88 dX10_askedPads_87 rfl rfl ?_
          refine z_ialdn 89 dX10_askedPads_88 rfl (by first | assumption | rfl) (by omega) ?_
          rw [hsz]
          refine z_icmp_ge 126 92 dX10_askedPads_89 (by decide) rfl (fun h89 => ?_) (fun h89 => ?_)
          · (try rw [nI_leI (by omega) (by omega)] at h89)
            refine z_iload_n 127 dX10_askedPads_126 rfl rfl ?_
            refine z_ri dX10_askedPads_127 rfl ?_
            exact Or.inr ⟨by rw [e3]; decide, rfl, σ, Fr.rf, hX, by rw [e3]⟩
          · (try rw [nI_leI (by omega) (by omega)] at h89)
            refine z_iload_n 93 dX10_askedPads_92 rfl rfl ?_
            refine z_if_ne 126 96 dX10_askedPads_93 (by decide) rfl (fun h93 => ?_) (fun h93 => ?_)
            · refine z_iload_n 127 dX10_askedPads_126 rfl rfl ?_
              refine z_ri dX10_askedPads_127 rfl ?_
              exact Or.inr ⟨by rw [e3]; decide, rfl, σ, Fr.rf, hX, by rw [e3]⟩
            · exact absurd h93 (by decide)
        refine z_aload_n 1 dX10_askedPads_0 rfl rfl ?_
        refine gX10_17 4 rfl dX10_askedPads_1 rfl ?_
        refine z_iload_n 5 dX10_askedPads_4 rfl rfl ?_
        refine z_ialdn 6 dX10_askedPads_5 rfl (by first | assumption | rfl) (by omega) ?_
        rw [c2]
        refine z_if_lt 18 9 dX10_askedPads_6 (by decide) rfl (fun h6 => ?_) (fun h6 => ?_)
        · exact absurd h6 (nI_pos (by omega))
        · refine z_aload_n 10 dX10_askedPads_9 rfl rfl ?_
          refine gX10_17 13 rfl dX10_askedPads_10 rfl ?_
          refine z_iload_n 14 dX10_askedPads_13 rfl rfl ?_
          refine z_ialdn 15 dX10_askedPads_14 rfl (by first | assumption | rfl) (by omega) ?_
          rw [g2]
          refine z_if_ge 24 18 dX10_askedPads_15 (by decide) rfl (fun h15 => ?_) (fun h15 => ?_)
          · refine z_aload_n 25 dX10_askedPads_24 rfl rfl ?_
            refine gX10_17 28 rfl dX10_askedPads_25 rfl ?_
            refine z_iload_n 29 dX10_askedPads_28 rfl rfl ?_
            refine z_ialdn 30 dX10_askedPads_29 rfl (by first | assumption | rfl) (by omega) ?_
            refine z_iconst 31 (v := nI 2) dX10_askedPads_30 rfl rfl ?_
            refine z_bipush 33 (v := nI 8) dX10_askedPads_31 rfl rfl ?_
            rw [c2]
            refine z_cSI3 36 (tX10_in) kX10_in dX10_askedPads_33 rfl lX10_91 (Nat.le_of_ble_eq_true rfl) ?_
            rintro _ _ ⟨e1, e2⟩
            replace e1 := e1.symm
            replace e2 := e2.symm
            subst e1
            subst e2
            rw [ein]
            refine z_ifb_eq 66 39 dX10_askedPads_36 (by decide) rfl (fun h36 => ?_) (fun h36 => ?_)
            · exact absurd ⟨h2, h8⟩ h36
            · refine z_aload_n 40 dX10_askedPads_39 rfl rfl ?_
              refine gX10_17 43 rfl dX10_askedPads_40 rfl ?_
              refine z_iload_n 44 dX10_askedPads_43 rfl rfl ?_
              refine z_ialdn 45 dX10_askedPads_44 rfl (by first | assumption | rfl) (by omega) ?_
              rw [c2]
              refine z_iconst 46 (v := nI 2) dX10_askedPads_45 rfl rfl ?_
              refine z_irem 47 dX10_askedPads_46 rfl (by decide) ?_
              rw [pk_rem (by omega) (by decide) (by decide)]
              refine z_iconst 48 (v := nI 1) dX10_askedPads_47 rfl rfl ?_
              refine z_icmp_eq 66 51 dX10_askedPads_48 (by decide) rfl (fun h48 => ?_) (fun h48 => ?_)
              · (try rw [nI_eq (by omega) (by omega)] at h48)
                omega
              · (try rw [nI_eq (by omega) (by omega)] at h48)
                refine z_aload_n 52 dX10_askedPads_51 rfl rfl ?_
                refine gX10_17 55 rfl dX10_askedPads_52 rfl ?_
                refine z_iload_n 56 dX10_askedPads_55 rfl rfl ?_
                refine z_ialdn 57 dX10_askedPads_56 rfl (by first | assumption | rfl) (by omega) ?_
                rw [g2]
                refine z_aload_n 58 dX10_askedPads_57 rfl rfl ?_
                refine gX10_17 61 rfl dX10_askedPads_58 rfl ?_
                refine z_iload_n 62 dX10_askedPads_61 rfl rfl ?_
                refine z_ialdn 63 dX10_askedPads_62 rfl (by first | assumption | rfl) (by omega) ?_
                rw [c2]
                refine z_icmp_eq 72 66 dX10_askedPads_63 (by decide) rfl (fun h63 => ?_) (fun h63 => ?_)
                · (try rw [nI_eq (by omega) (by omega)] at h63)
                  refine z_aload_n 73 dX10_askedPads_72 rfl rfl ?_
                  refine z_iload_n 74 dX10_askedPads_73 rfl rfl ?_
                  refine z_cVI1 77 (tX10_askedSeats hW hX hr hor h8) kX10_askedSeats dX10_askedPads_74 rfl lX10_224 (by first | assumption | rfl) (Nat.le_of_ble_eq_true rfl) ?_
                  rintro x1 τ1 hx
                  rcases hx with ⟨hU, e1, hF, hR, hB⟩ | ⟨hU, e1, e2⟩
                  · rw [hor] at hB
                    subst e1
                    exact ok77 hU τ1 hF hR hB
                  · subst e1
                    subst e2
                    exact no77 hU
                · (try rw [nI_eq (by omega) (by omega)] at h63)
                  omega
          · exact absurd (nI_pos' (by omega)) h15
      · rw [if_pos hT] at ed
        refine z_aload_n 1 dX10_askedPads_0 rfl rfl ?_
        refine gX10_17 4 rfl dX10_askedPads_1 rfl ?_
        refine z_iload_n 5 dX10_askedPads_4 rfl rfl ?_
        refine z_ialdn 6 dX10_askedPads_5 rfl (by first | assumption | rfl) (by omega) ?_
        rw [c2]
        refine z_if_lt 18 9 dX10_askedPads_6 (by decide) rfl (fun h6 => ?_) (fun h6 => ?_)
        · exact absurd h6 (nI_pos (by omega))
        · refine z_aload_n 10 dX10_askedPads_9 rfl rfl ?_
          refine gX10_17 13 rfl dX10_askedPads_10 rfl ?_
          refine z_iload_n 14 dX10_askedPads_13 rfl rfl ?_
          refine z_ialdn 15 dX10_askedPads_14 rfl (by first | assumption | rfl) (by omega) ?_
          rw [g2]
          refine z_if_ge 24 18 dX10_askedPads_15 (by decide) rfl (fun h15 => ?_) (fun h15 => ?_)
          · refine z_aload_n 25 dX10_askedPads_24 rfl rfl ?_
            refine gX10_17 28 rfl dX10_askedPads_25 rfl ?_
            refine z_iload_n 29 dX10_askedPads_28 rfl rfl ?_
            refine z_ialdn 30 dX10_askedPads_29 rfl (by first | assumption | rfl) (by omega) ?_
            refine z_iconst 31 (v := nI 2) dX10_askedPads_30 rfl rfl ?_
            refine z_bipush 33 (v := nI 8) dX10_askedPads_31 rfl rfl ?_
            rw [c2]
            refine z_cSI3 36 (tX10_in) kX10_in dX10_askedPads_33 rfl lX10_91 (Nat.le_of_ble_eq_true rfl) ?_
            rintro _ _ ⟨e1, e2⟩
            replace e1 := e1.symm
            replace e2 := e2.symm
            subst e1
            subst e2
            rw [ein]
            refine z_ifb_eq 66 39 dX10_askedPads_36 (by decide) rfl (fun h36 => ?_) (fun h36 => ?_)
            · refine z_aload_n 67 dX10_askedPads_66 rfl rfl ?_
              refine z_iconst 68 (v := nI 5) dX10_askedPads_67 rfl rfl ?_
              refine z_cVI1 71 (tX10_meets (by omega)) kX10_meets dX10_askedPads_68 rfl lX10_99 (by first | assumption | rfl) (Nat.le_of_ble_eq_true rfl) ?_
              rintro _ _ ⟨e1, e2⟩
              replace e1 := e1.symm
              replace e2 := e2.symm
              subst e1
              subst e2
              refine z_ri dX10_askedPads_71 rfl ?_
              exact Or.inr ⟨by rw [ed]; decide, rfl, σ, Fr.rf, hX, by rw [ed]⟩
            · refine z_aload_n 40 dX10_askedPads_39 rfl rfl ?_
              refine gX10_17 43 rfl dX10_askedPads_40 rfl ?_
              refine z_iload_n 44 dX10_askedPads_43 rfl rfl ?_
              refine z_ialdn 45 dX10_askedPads_44 rfl (by first | assumption | rfl) (by omega) ?_
              rw [c2]
              refine z_iconst 46 (v := nI 2) dX10_askedPads_45 rfl rfl ?_
              refine z_irem 47 dX10_askedPads_46 rfl (by decide) ?_
              rw [pk_rem (by omega) (by decide) (by decide)]
              refine z_iconst 48 (v := nI 1) dX10_askedPads_47 rfl rfl ?_
              refine z_icmp_eq 66 51 dX10_askedPads_48 (by decide) rfl (fun h48 => ?_) (fun h48 => ?_)
              · (try rw [nI_eq (by omega) (by omega)] at h48)
                refine z_aload_n 67 dX10_askedPads_66 rfl rfl ?_
                refine z_iconst 68 (v := nI 5) dX10_askedPads_67 rfl rfl ?_
                refine z_cVI1 71 (tX10_meets (by omega)) kX10_meets dX10_askedPads_68 rfl lX10_99 (by first | assumption | rfl) (Nat.le_of_ble_eq_true rfl) ?_
                rintro _ _ ⟨e1, e2⟩
                replace e1 := e1.symm
                replace e2 := e2.symm
                subst e1
                subst e2
                refine z_ri dX10_askedPads_71 rfl ?_
                exact Or.inr ⟨by rw [ed]; decide, rfl, σ, Fr.rf, hX, by rw [ed]⟩
              · (try rw [nI_eq (by omega) (by omega)] at h48)
                refine z_aload_n 52 dX10_askedPads_51 rfl rfl ?_
                refine gX10_17 55 rfl dX10_askedPads_52 rfl ?_
                refine z_iload_n 56 dX10_askedPads_55 rfl rfl ?_
                refine z_ialdn 57 dX10_askedPads_56 rfl (by first | assumption | rfl) (by omega) ?_
                rw [g2]
                refine z_aload_n 58 dX10_askedPads_57 rfl rfl ?_
                refine gX10_17 61 rfl dX10_askedPads_58 rfl ?_
                refine z_iload_n 62 dX10_askedPads_61 rfl rfl ?_
                refine z_ialdn 63 dX10_askedPads_62 rfl (by first | assumption | rfl) (by omega) ?_
                rw [c2]
                refine z_icmp_eq 72 66 dX10_askedPads_63 (by decide) rfl (fun h63 => ?_) (fun h63 => ?_)
                · (try rw [nI_eq (by omega) (by omega)] at h63)
                  exact absurd ⟨⟨h36.1, h36.2, by omega⟩, by omega⟩ hT
                · (try rw [nI_eq (by omega) (by omega)] at h63)
                  refine z_aload_n 67 dX10_askedPads_66 rfl rfl ?_
                  refine z_iconst 68 (v := nI 5) dX10_askedPads_67 rfl rfl ?_
                  refine z_cVI1 71 (tX10_meets (by omega)) kX10_meets dX10_askedPads_68 rfl lX10_99 (by first | assumption | rfl) (Nat.le_of_ble_eq_true rfl) ?_
                  rintro _ _ ⟨e1, e2⟩
                  replace e1 := e1.symm
                  replace e2 := e2.symm
                  subst e1
                  subst e2
                  refine z_ri dX10_askedPads_71 rfl ?_
                  exact Or.inr ⟨by rw [ed]; decide, rfl, σ, Fr.rf, hX, by rw [ed]⟩
          · exact absurd (nI_pos' (by omega)) h15
/-! odds -/
/-- the share of v, when p draws w and q, who knows it is p, guesses -/
def stp (S : sS) (p q w v : Nat) : Nat := shD S q p w (some p) v
def nxP (S : sS) (p q : Nat) (o : Nat → Nat) (m v : Nat) : Nat := fsum (fun w => o w * stp S p q w v) m
def nxO (S : sS) (p q : Nat) (o : Nat → Nat) (v : Nat) : Nat := nxP S p q o (sBw S 0) v
def odN (S : sS) (t : Nat → Nat) (n s : Nat) (o : Nat → Nat) : Nat → Nat → Nat
  | 0 => o
  | k + 1 => nxO S (t ((s + 2 * k) % n)) (t ((s + 2 * k + 1) % n)) (odN S t n s o k)
def eW (w : Nat) : Nat → Nat := fun v => if v = w then 1 else 0
theorem stp_sum {S : sS} (hW : WF S) {q : Nat} (hq : q < sPc S) (p w : Nat) : fsum (stp S p q w) (sBw S 0) = 24 := hSh_sum (plOK hW hq).2.2.2.2
theorem stp_le {S : sS} (hW : WF S) {q : Nat} (hq : q < sPc S) (p w : Nat) {v : Nat} (hv : v < sBw S 0) : stp S p q w v ≤ 24 := by
  have h1 := stp_sum hW hq p w
  have h2 := fsum_one (f := stp S p q w) (sBw S 0) v hv
  omega
theorem nxO_sum {S : sS} (hW : WF S) {q : Nat} (hq : q < sPc S) (p : Nat) (o : Nat → Nat) : fsum (nxO S p q o) (sBw S 0) = 24 * fsum o (sBw S 0) := by
  show fsum (fun v => fsum (fun w => o w * stp S p q w v) (sBw S 0)) (sBw S 0) = _
  rw [fsum_comm, ← fsum_mul]
  refine fsum_congr _ (fun w hw => ?_)
  rw [fsum_mul (o w) (fun v => stp S p q w v), show fsum (fun v => stp S p q w v) (sBw S 0) = 24 from stp_sum hW hq p w, Nat.mul_comm]
theorem odN_sum {S : sS} (hW : WF S) {n : Nat} {t : Nat → Nat} (hT : TbOK S n t) (s : Nat) (o : Nat → Nat) : ∀ k, fsum (odN S t n s o k) (sBw S 0) = 24 ^ k * fsum o (sBw S 0) := by
  have hn : 0 < n := by have := hT.1.1; omega
  intro k
  induction k with
  | zero => rw [Nat.pow_zero, Nat.one_mul]; rfl
  | succ k ih =>
    show fsum (nxO S (t ((s + 2 * k) % n)) (t ((s + 2 * k + 1) % n)) (odN S t n s o k)) (sBw S 0) = _
    rw [nxO_sum hW (hT.2 _ (Nat.mod_lt _ hn)).1, ih, Nat.pow_succ, ← Nat.mul_assoc, Nat.mul_comm 24 (24 ^ k)]
theorem eW_sum {w m : Nat} (hw : w < m) : fsum (eW w) m = 1 := by
  have h := fsum_single (c := 1) (p := w) m
  rw [if_pos hw] at h
  exact h
theorem p24 {k : Nat} (hk : k ≤ 4) : 24 ^ k ≤ 331776 := Nat.le_trans (Nat.pow_le_pow_right (by decide) hk) (by decide)
theorem odN_le {S : sS} (hW : WF S) {n : Nat} {t : Nat → Nat} (hT : TbOK S n t) (s : Nat) {w : Nat} (hw : w < sBw S 0) (k : Nat) {v : Nat} (hv : v < sBw S 0) : odN S t n s (eW w) k v ≤ 24 ^ k := by
  have h1 := odN_sum hW hT s (eW w) k
  rw [eW_sum hw, Nat.mul_one] at h1
  have h2 := fsum_one (f := odN S t n s (eW w) k) (sBw S 0) v hv
  omega
theorem nxO_congr {S : sS} {p q : Nat} {o o' : Nat → Nat} (h : ∀ w, w < sBw S 0 → o w = o' w) (v : Nat) : nxO S p q o v = nxO S p q o' v := fsum_congr _ (fun w hw => by rw [h w hw])
theorem odN_congr {S : sS} {t : Nat → Nat} {n s : Nat} {o o' : Nat → Nat} (h : ∀ w, w < sBw S 0 → o w = o' w) : ∀ k v, v < sBw S 0 → odN S t n s o k v = odN S t n s o' k v := by
  intro k
  induction k with
  | zero => exact h
  | succ k ih => exact fun v _ => nxO_congr ih v
/-- all words at once is each word, summed -/
theorem odN_lin {S : sS} {t : Nat → Nat} {n s : Nat} (f : Nat → Nat → Nat) (m : Nat) : ∀ k v, odN S t n s (fun x => fsum (fun w => f w x) m) k v = fsum (fun w => odN S t n s (f w) k v) m := by
  intro k
  induction k with
  | zero => exact fun v => rfl
  | succ k ih =>
    intro v
    show fsum (fun x => odN S t n s (fun x => fsum (fun w => f w x) m) k x * stp S (t ((s + 2 * k) % n)) (t ((s + 2 * k + 1) % n)) x v) (sBw S 0) = fsum (fun w => fsum (fun x => odN S t n s (f w) k x * stp S (t ((s + 2 * k) % n)) (t ((s + 2 * k + 1) % n)) x v) (sBw S 0)) m
    rw [fsum_comm]
    refine fsum_congr _ (fun x hx => ?_)
    rw [ih x, Nat.mul_comm, ← fsum_mul]
    exact fsum_congr _ (fun w _ => Nat.mul_comm _ _)
theorem odN_all {S : sS} {t : Nat → Nat} {n s : Nat} (k : Nat) {v : Nat} (hv : v < sBw S 0) : odN S t n s (fun _ => 1) k v = fsum (fun w => odN S t n s (eW w) k v) (sBw S 0) := by
  rw [← odN_lin (fun w => eW w)]
  refine odN_congr (fun x hx => ?_) k v hv
  have h := fsum_single (c := 1) (p := x) (sBw S 0)
  rw [if_pos hx] at h
  refine h.symm.trans (fsum_congr _ (fun i _ => ?_))
  show (if i = x then 1 else 0) = if x = i then 1 else 0
  by_cases hix : i = x
  · rw [if_pos hix, if_pos hix.symm]
  · rw [if_neg hix, if_neg (fun z => hix z.symm)]
