/-! on of the reference -/
set_option maxRecDepth 20000 in
theorem tX10_isPlayerBy {E : zE} {d : Nat} {σ : zM} {S : sS} {v : Int32} (hW : WF S) (hX : RM S σ) : Ret E mX10_isPlayerBy (d + 2) [zr E 102, .int v] σ (qI fun x τ => x = bI (decide (pOK S v)) ∧ τ = σ) := by
  have hb8 := bw_le hW (show 0 < 2 by omega)
  by_cases hv : ¬ inN v 6000
  · refine Ret.of [some (zr E 102), some (.int v)] (by decide +kernel) (Nat.le_of_ble_eq_true rfl) rfl ?_
    refine z_iload_n 1 dX10_isPlayerBy_0 rfl rfl ?_
    refine z_iconst 2 (v := nI 0) dX10_isPlayerBy_1 rfl rfl ?_
    refine z_sipush 5 (v := nI 5999) dX10_isPlayerBy_2 rfl rfl ?_
    refine z_cSI3 8 (tX10_in) kX10_in dX10_isPlayerBy_5 rfl lX10_91 (Nat.le_of_ble_eq_true rfl) ?_
    rintro _ _ ⟨e1, e2⟩
    replace e1 := e1.symm
    replace e2 := e2.symm
    subst e1
    subst e2
    rw [in_k (by decide)]
    refine z_ifb_eq 67 11 dX10_isPlayerBy_8 (by decide) rfl (fun h8 => ?_) (fun h8 => ?_)
    · refine z_iconst 68 (v := nI 0) dX10_isPlayerBy_67 rfl rfl ?_
      refine z_rz dX10_isPlayerBy_68 rfl (by first | exact Or.inl rfl | exact Or.inr rfl | exact bI_01 _ | assumption) ?_
      exact ⟨bI_f (fun z => hv z.1), rfl⟩
    · exact absurd h8 hv
  have hv : inN v 6000 := Classical.byContradiction hv
  have hv' := hv
  obtain ⟨j, hj, rfl⟩ := inN_of hv
  have hz : zx (nI j) = j := zx_nI (by omega)
  have hD : pOK S (nI j) ↔ (j / 100 % 10 < 2 ∧ cnt S (j / 100 % 10) ∧ 1 ≤ j / 10 % 10 ∧ j / 10 % 10 ≤ 6 ∧ j % 10 < sBw S 0) := by
    rw [pOK, hz]
    exact ⟨fun z => z.2, fun z => ⟨hv', z⟩⟩
  refine Ret.of [some (zr E 102), some (.int (nI j))] (by decide +kernel) (Nat.le_of_ble_eq_true rfl) rfl ?_
  refine z_iload_n 1 dX10_isPlayerBy_0 rfl rfl ?_
  refine z_iconst 2 (v := nI 0) dX10_isPlayerBy_1 rfl rfl ?_
  refine z_sipush 5 (v := nI 5999) dX10_isPlayerBy_2 rfl rfl ?_
  refine z_cSI3 8 (tX10_in) kX10_in dX10_isPlayerBy_5 rfl lX10_91 (Nat.le_of_ble_eq_true rfl) ?_
  rintro _ _ ⟨e1, e2⟩
  replace e1 := e1.symm
  replace e2 := e2.symm
  subst e1
  subst e2
  rw [in_k (by decide)]
  refine z_ifb_eq 67 11 dX10_isPlayerBy_8 (by decide) rfl (fun h8 => ?_) (fun h8 => ?_)
  · exact absurd hv' h8
  · refine z_iload_n 12 dX10_isPlayerBy_11 rfl rfl ?_
    refine z_bipush 14 (v := nI 100) dX10_isPlayerBy_12 rfl rfl ?_
    refine z_idiv 15 dX10_isPlayerBy_14 rfl (by decide) ?_
    rw [pk_div (by omega) (by decide) (by decide)]
    refine z_bipush 17 (v := nI 10) dX10_isPlayerBy_15 rfl rfl ?_
    refine z_irem 18 dX10_isPlayerBy_17 rfl (by decide) ?_
    rw [pk_rem (by omega) (by decide) (by decide)]
    refine z_iconst 19 (v := nI 2) dX10_isPlayerBy_18 rfl rfl ?_
    refine z_icmp_ge 67 22 dX10_isPlayerBy_19 (by decide) rfl (fun h19 => ?_) (fun h19 => ?_)
    · (try rw [nI_leI (by omega) (by omega)] at h19)
      refine z_iconst 68 (v := nI 0) dX10_isPlayerBy_67 rfl rfl ?_
      refine z_rz dX10_isPlayerBy_68 rfl (by first | exact Or.inl rfl | exact Or.inr rfl | exact bI_01 _ | assumption) ?_
      first
        | exact ⟨bI_t (hD.mpr ⟨by omega, h33, by omega, by omega, h60⟩), rfl⟩
        | exact ⟨bI_f (fun z => by have z := hD.mp z; obtain ⟨z2, z3, z4, z5, z6⟩ := z; omega), rfl⟩
        | exact ⟨bI_f (fun z => by have z := hD.mp z; exact h33 z.2.1), rfl⟩
    · (try rw [nI_leI (by omega) (by omega)] at h19)
      refine z_aload_n 23 dX10_isPlayerBy_22 rfl rfl ?_
      refine z_iload_n 24 dX10_isPlayerBy_23 rfl rfl ?_
      refine z_bipush 26 (v := nI 100) dX10_isPlayerBy_24 rfl rfl ?_
      refine z_idiv 27 dX10_isPlayerBy_26 rfl (by decide) ?_
      rw [pk_div (by omega) (by decide) (by decide)]
      refine z_bipush 29 (v := nI 10) dX10_isPlayerBy_27 rfl rfl ?_
      refine z_irem 30 dX10_isPlayerBy_29 rfl (by decide) ?_
      rw [pk_rem (by omega) (by decide) (by decide)]
      refine z_cVI1 33 (tX10_isLand (by assumption) (by assumption) (by omega)) kX10_isLand dX10_isPlayerBy_30 rfl lX10_148 (by first | assumption | rfl) (Nat.le_of_ble_eq_true rfl) ?_
      rintro _ _ ⟨e1, e2⟩
      replace e1 := e1.symm
      replace e2 := e2.symm
      subst e1
      subst e2
      refine z_ifb_eq 67 36 dX10_isPlayerBy_33 (by decide) rfl (fun h33 => ?_) (fun h33 => ?_)
      · refine z_iconst 68 (v := nI 0) dX10_isPlayerBy_67 rfl rfl ?_
        refine z_rz dX10_isPlayerBy_68 rfl (by first | exact Or.inl rfl | exact Or.inr rfl | exact bI_01 _ | assumption) ?_
        first
          | exact ⟨bI_t (hD.mpr ⟨by omega, h33, by omega, by omega, h60⟩), rfl⟩
          | exact ⟨bI_f (fun z => by have z := hD.mp z; obtain ⟨z2, z3, z4, z5, z6⟩ := z; omega), rfl⟩
          | exact ⟨bI_f (fun z => by have z := hD.mp z; exact h33 z.2.1), rfl⟩
      · refine z_iload_n 37 dX10_isPlayerBy_36 rfl rfl ?_
        refine z_bipush 39 (v := nI 10) dX10_isPlayerBy_37 rfl rfl ?_
        refine z_idiv 40 dX10_isPlayerBy_39 rfl (by decide) ?_
        rw [pk_div (by omega) (by decide) (by decide)]
        refine z_bipush 42 (v := nI 10) dX10_isPlayerBy_40 rfl rfl ?_
        refine z_irem 43 dX10_isPlayerBy_42 rfl (by decide) ?_
        rw [pk_rem (by omega) (by decide) (by decide)]
        refine z_iconst 44 (v := nI 1) dX10_isPlayerBy_43 rfl rfl ?_
        refine z_bipush 46 (v := nI 6) dX10_isPlayerBy_44 rfl rfl ?_
        refine z_cSI3 49 (tX10_in) kX10_in dX10_isPlayerBy_46 rfl lX10_91 (Nat.le_of_ble_eq_true rfl) ?_
        rintro _ _ ⟨e1, e2⟩
        replace e1 := e1.symm
        replace e2 := e2.symm
        subst e1
        subst e2
        refine z_ifb_eq 67 52 dX10_isPlayerBy_49 (by decide) rfl (fun h49 => ?_) (fun h49 => ?_)
        · rw [nI_leI (by decide) (by omega), nI_leI (by omega) (by decide)] at h49
          refine z_iconst 68 (v := nI 0) dX10_isPlayerBy_67 rfl rfl ?_
          refine z_rz dX10_isPlayerBy_68 rfl (by first | exact Or.inl rfl | exact Or.inr rfl | exact bI_01 _ | assumption) ?_
          first
            | exact ⟨bI_t (hD.mpr ⟨by omega, h33, by omega, by omega, h60⟩), rfl⟩
            | exact ⟨bI_f (fun z => by have z := hD.mp z; obtain ⟨z2, z3, z4, z5, z6⟩ := z; omega), rfl⟩
            | exact ⟨bI_f (fun z => by have z := hD.mp z; exact h33 z.2.1), rfl⟩
        · rw [nI_leI (by decide) (by omega), nI_leI (by omega) (by decide)] at h49
          refine z_aload_n 53 dX10_isPlayerBy_52 rfl rfl ?_
          refine z_iload_n 54 dX10_isPlayerBy_53 rfl rfl ?_
          refine z_bipush 56 (v := nI 10) dX10_isPlayerBy_54 rfl rfl ?_
          refine z_irem 57 dX10_isPlayerBy_56 rfl (by decide) ?_
          rw [pk_rem (by omega) (by decide) (by decide)]
          refine z_cVI1 60 (tX10_isWord (by assumption) (by assumption)) kX10_isWord dX10_isPlayerBy_57 rfl lX10_151 (by first | assumption | rfl) (Nat.le_of_ble_eq_true rfl) ?_
          rintro _ _ ⟨e1, e2⟩
          replace e1 := e1.symm
          replace e2 := e2.symm
          subst e1
          subst e2
          refine z_ifb_eq 67 63 dX10_isPlayerBy_60 (by decide) rfl (fun h60 => ?_) (fun h60 => ?_)
          · rw [inN_nI' (by omega)] at h60
            refine z_iconst 68 (v := nI 0) dX10_isPlayerBy_67 rfl rfl ?_
            refine z_rz dX10_isPlayerBy_68 rfl (by first | exact Or.inl rfl | exact Or.inr rfl | exact bI_01 _ | assumption) ?_
            first
              | exact ⟨bI_t (hD.mpr ⟨by omega, h33, by omega, by omega, h60⟩), rfl⟩
              | exact ⟨bI_f (fun z => by have z := hD.mp z; obtain ⟨z2, z3, z4, z5, z6⟩ := z; omega), rfl⟩
              | exact ⟨bI_f (fun z => by have z := hD.mp z; exact h33 z.2.1), rfl⟩
          · rw [inN_nI' (by omega)] at h60
            refine z_iconst 64 (v := nI 1) dX10_isPlayerBy_63 rfl rfl ?_
            refine z_goto 68 dX10_isPlayerBy_64 rfl ?_
            refine z_rz dX10_isPlayerBy_68 rfl (by first | exact Or.inl rfl | exact Or.inr rfl | exact bI_01 _ | assumption) ?_
            first
              | exact ⟨bI_t (hD.mpr ⟨by omega, h33, by omega, by omega, h60⟩), rfl⟩
              | exact ⟨bI_f (fun z => by have z := hD.mp z; obtain ⟨z2, z3, z4, z5, z6⟩ := z; omega), rfl⟩
              | exact ⟨bI_f (fun z => by have z := hD.mp z; exact h33 z.2.1), rfl⟩
set_option maxRecDepth 20000 in
theorem tX10_on {E : zE} {d : Nat} {σ : zM} {S : sS} {r : Int32} (hW : WF S) (hX : RM S σ) : Ret E mX10_on (d + 3) [zr E 102, .int r] σ (qM σ (spOn S r)) := by
  by_cases hA : ¬ inN r 6
  · refine Ret.of [some (zr E 102), some (.int r), none, none, none] (by decide +kernel) (Nat.le_of_ble_eq_true rfl) rfl ?_
    refine z_aload_n 1 dX10_on_0 rfl rfl ?_
    refine z_iload_n 2 dX10_on_1 rfl rfl ?_
    refine z_cVI1 5 (tX10_aR1 hA) kX10_askedRow dX10_on_2 rfl lX10_110 (by first | assumption | rfl) (Nat.le_of_ble_eq_true rfl) ?_
    rintro _ _ ⟨e1, e2⟩
    replace e1 := e1.symm
    replace e2 := e2.symm
    subst e1
    subst e2
    refine zs_istore_n_2_5 6 rfl dX10_on_5 rfl rfl ?_
    refine z_iload_n 7 dX10_on_6 rfl rfl ?_
    refine z_if_ge 12 10 dX10_on_7 (by decide) rfl (fun h7 => ?_) (fun h7 => ?_)
    · exact absurd h7 (by decide)
    · refine z_iload_n 11 dX10_on_10 rfl rfl ?_
      refine z_ri dX10_on_11 rfl ?_
      exact qm0 (if_pos hA) hX Fr.rf
  have e0 : spOn S r = _ := if_neg hA
  have hA : inN r 6 := Classical.byContradiction hA
  obtain ⟨r, hr, rfl⟩ := inN_of hA
  rw [zx_nI (by omega)] at e0
  have hS : mSh σ 104 105 r 40 (sR S r) := hX.1 r hr
  refine Ret.of [some (zr E 102), some (.int (nI r)), none, none, none] (by decide +kernel) (Nat.le_of_ble_eq_true rfl) rfl ?_
  cases ho : sR S r with
  | none =>
    rw [ho] at e0
    rw [if_pos (show ¬ imF S none = 0 from (by decide : ¬ (1 : Nat) = 0))] at e0
    refine z_aload_n 1 dX10_on_0 rfl rfl ?_
    refine z_iload_n 2 dX10_on_1 rfl rfl ?_
    refine z_cVI1 5 (tX10_aR2 hr hX ho) kX10_askedRow dX10_on_2 rfl lX10_110 (by first | assumption | rfl) (Nat.le_of_ble_eq_true rfl) ?_
    rintro _ _ ⟨e1, e2⟩
    replace e1 := e1.symm
    replace e2 := e2.symm
    subst e1
    subst e2
    refine zs_istore_n_2_5 6 rfl dX10_on_5 rfl rfl ?_
    refine z_iload_n 7 dX10_on_6 rfl rfl ?_
    refine z_if_ge 12 10 dX10_on_7 (by decide) rfl (fun h7 => ?_) (fun h7 => ?_)
    · exact absurd h7 (by decide)
    · refine z_iload_n 11 dX10_on_10 rfl rfl ?_
      refine z_ri dX10_on_11 rfl ?_
      exact qmf hW e0 (by decide) hX Fr.rf
  | some q =>
    rw [ho] at e0 hS
    have q40 := hS.1
    have hs : gi σ 104 r = nI q.1 := hS.2.1
    have eF : imF S (some q) = if 8 < q.1 then 5 else if ∀ i, i < q.1 → pOK S (q.2 i) then 0 else 3 := rfl
    by_cases hq8 : 8 < q.1
    · rw [if_pos hq8] at eF
      rw [eF, if_pos (by decide)] at e0
      refine z_aload_n 1 dX10_on_0 rfl rfl ?_
      refine z_iload_n 2 dX10_on_1 rfl rfl ?_
      refine z_cVI1 5 (tX10_aR3 hr hX ho) kX10_askedRow dX10_on_2 rfl lX10_110 (by first | assumption | rfl) (Nat.le_of_ble_eq_true rfl) ?_
      rintro _ _ ⟨e1, e2⟩
      replace e1 := e1.symm
      replace e2 := e2.symm
      subst e1
      subst e2
      refine zs_istore_n_2_5 6 rfl dX10_on_5 rfl rfl ?_
      refine z_iload_n 7 dX10_on_6 rfl rfl ?_
      refine z_if_ge 12 10 dX10_on_7 (by decide) rfl (fun h7 => ?_) (fun h7 => ?_)
      · refine z_aload_n 13 dX10_on_12 rfl rfl ?_
        refine gX10_17 16 rfl dX10_on_13 rfl ?_
        refine z_iload_n 17 dX10_on_16 rfl rfl ?_
        refine z_ialdn 18 dX10_on_17 rfl (by first | assumption | rfl) (by omega) ?_
        rw [hs]
        refine z_bipush 20 (v := nI 8) dX10_on_18 rfl rfl ?_
        refine z_icmp_le 29 23 dX10_on_20 (by decide) rfl (fun h20 => ?_) (fun h20 => ?_)
        · (try rw [nI_leI (by omega) (by omega)] at h20)
          omega
        · (try rw [nI_leI (by omega) (by omega)] at h20)
          refine z_aload_n 24 dX10_on_23 rfl rfl ?_
          refine z_iconst 25 (v := nI 5) dX10_on_24 rfl rfl ?_
          refine z_cVI1 28 (tX10_meets (by omega)) kX10_meets dX10_on_25 rfl lX10_99 (by first | assumption | rfl) (Nat.le_of_ble_eq_true rfl) ?_
          rintro _ _ ⟨e1, e2⟩
          replace e1 := e1.symm
          replace e2 := e2.symm
          subst e1
          subst e2
          refine z_ri dX10_on_28 rfl ?_
          exact qmf hW e0 (by decide) hX Fr.rf
      · exact absurd (nI_pos' (by decide)) h7
    rw [if_neg hq8] at eF
    have loop2 : (∀ i, i < q.1 → pOK S (q.2 i)) → ∀ i, i ≤ q.1 → ∀ τ, Fr (fun x y => x = 102 ∧ (y = 13 ∨ y = 35) ∨ x = 111) σ τ → gi τ 102 13 = nI q.1 → (∀ p, p < i → mPy τ p (plD (q.2 p))) → At E mX10_on (d + 3) (qM σ (spOn S (nI r))) 78 [some (zr E 102), some (.int (nI r)), some (.int (nI 0)), some (.int (nI i)), none] [] τ := by
      intro hO
      rw [if_pos hO] at eF
      rw [eF, if_neg (fun z => z rfl)] at e0
      refine z_up (fun i hi ih τ hF h13 hv => ?_)
      by_cases hie : i = q.1
      · subst hie
        refine z_iload_n 79 dX10_on_78 rfl rfl ?_
        refine z_aload_n 80 dX10_on_79 rfl rfl ?_
        refine gX10_138 83 rfl dX10_on_80 rfl ?_
        rw [h13]
        refine z_icmp_ge 132 86 dX10_on_83 (by decide) rfl (fun h83 => ?_) (fun h83 => ?_)
        · (try rw [nI_leI (by omega) (by omega)] at h83)
          refine z_aload_n 133 dX10_on_132 rfl rfl ?_
          refine z_iconst 134 (v := nI 0) dX10_on_133 rfl rfl ?_
          refine pX10_141 137 rfl dX10_on_134 rfl ?_
          refine z_aload_n 138 dX10_on_137 rfl rfl ?_
          refine gX10_138 141 rfl dX10_on_138 rfl ?_
          rw [gi_s2 _ _ (by omega), h13]
          refine z_ri dX10_on_141 rfl ?_
          have hf2 : Fr (fun x y => x = 102 ∧ y = 35) τ (si τ 102 35 (nI 0)) := Fr.rf.si _ ⟨rfl, rfl⟩
          have hf3 := hF.tr hf2 (R := fun x y => x = 102 ∧ (y = 13 ∨ y = 35) ∨ x = 111) (fun _ _ h => h) (by intros; omega)
          exact qm0 e0 (hX.PL hW hf3 ((hf2.gi (by omega)).trans h13) (gi_s1 _ _ _ _) (fun p hp => (hv p hp).fr hf2 (by intros; omega))) (hf3.mono (by intros; omega))
        · (try rw [nI_leI (by omega) (by omega)] at h83)
          omega
      · have hil : i < q.1 := by omega
        have hgv : gi τ 105 (40 * r + i) = q.2 i := (hF.gi (by omega)).trans (hS.2.2 i hil)
        obtain ⟨z1, z2, z3, z4, z5, z6⟩ := hO i hil
        obtain ⟨j, hj, ej⟩ := inN_of z1
        have hz : zx (q.2 i) = j := by rw [ej]; exact zx_nI (by omega)
        rw [ej] at hgv
        have epl : plD (q.2 i) = (j / 1000, j / 100 % 10, j / 10 % 10, j % 10) := by unfold plD; rw [hz]
        refine z_iload_n 79 dX10_on_78 rfl rfl ?_
        refine z_aload_n 80 dX10_on_79 rfl rfl ?_
        refine gX10_138 83 rfl dX10_on_80 rfl ?_
        rw [h13]
        refine z_icmp_ge 132 86 dX10_on_83 (by decide) rfl (fun h83 => ?_) (fun h83 => ?_)
        · (try rw [nI_leI (by omega) (by omega)] at h83)
          omega
        · (try rw [nI_leI (by omega) (by omega)] at h83)
          refine z_aload_n 87 dX10_on_86 rfl rfl ?_
          refine z_iload_n 88 dX10_on_87 rfl rfl ?_
          refine z_iload_n 89 dX10_on_88 rfl rfl ?_
          refine z_cVI2 92 (tX10_rowAt (by omega) (by omega)) kX10_rowAt dX10_on_89 rfl lX10_113 (by first | assumption | rfl) (Nat.le_of_ble_eq_true rfl) ?_
          rintro _ _ ⟨e1, e2⟩
          replace e1 := e1.symm
          replace e2 := e2.symm
          subst e1
          subst e2
          rw [hgv]
          refine zs_istore_4_5 94 rfl dX10_on_92 rfl rfl ?_
          refine z_aload_n 95 dX10_on_94 rfl rfl ?_
          refine z_iload_n 96 dX10_on_95 rfl rfl ?_
          refine z_iload 98 dX10_on_96 rfl rfl ?_
          refine z_sipush 101 (v := nI 1000) dX10_on_98 rfl rfl ?_
          refine z_idiv 102 dX10_on_101 rfl (by decide) ?_
          rw [pk_div (by omega) (by decide) (by decide)]
          refine z_iload 104 dX10_on_102 rfl rfl ?_
          refine z_bipush 106 (v := nI 100) dX10_on_104 rfl rfl ?_
          refine z_idiv 107 dX10_on_106 rfl (by decide) ?_
          rw [pk_div (by omega) (by decide) (by decide)]
          refine z_bipush 109 (v := nI 10) dX10_on_107 rfl rfl ?_
          refine z_irem 110 dX10_on_109 rfl (by decide) ?_
          rw [pk_rem (by omega) (by decide) (by decide)]
          refine z_iload 112 dX10_on_110 rfl rfl ?_
          refine z_bipush 114 (v := nI 10) dX10_on_112 rfl rfl ?_
          refine z_idiv 115 dX10_on_114 rfl (by decide) ?_
          rw [pk_div (by omega) (by decide) (by decide)]
          refine z_bipush 117 (v := nI 10) dX10_on_115 rfl rfl ?_
          refine z_irem 118 dX10_on_117 rfl (by decide) ?_
          rw [pk_rem (by omega) (by decide) (by decide)]
          refine z_iload 120 dX10_on_118 rfl rfl ?_
          refine z_bipush 122 (v := nI 10) dX10_on_120 rfl rfl ?_
          refine z_irem 123 dX10_on_122 rfl (by decide) ?_
          rw [pk_rem (by omega) (by decide) (by decide)]
          refine z_cVV5 126 (tX10_setPlayer (by omega)) kX10_setPlayer dX10_on_123 rfl lX10_158 (by first | assumption | rfl) (Nat.le_of_ble_eq_true rfl) ?_
          rintro _ e2
          replace e2 := e2.symm
          subst e2
          refine zs_iinc_3_5_1 129 rfl dX10_on_126 rfl rfl ?_
          rw [nI_add]
          refine z_goto 78 dX10_on_129 rfl ?_
          have hf2 := mSt_fr τ i (j / 1000) (j / 100 % 10) (j / 10 % 10) (j % 10)
          refine zf_4_5 (ih (i + 1) (by omega) (by omega) _ (hF.tr hf2 (fun _ _ h => h) (by intros; omega)) ((hf2.gi (by omega)).trans h13) (fun p hp => ?_))
          by_cases hpi : p = i
          · rw [hpi, epl]; exact mSt_py τ _ _ _ _ _
          · exact (hv p (by omega)).fr hf2 (by intros; omega)
    have loop1 : ∀ i, i ≤ q.1 → (∀ k, k < i → pOK S (q.2 k)) → At E mX10_on (d + 3) (qM σ (spOn S (nI r))) 31 [some (zr E 102), some (.int (nI r)), some (.int (nI 0)), some (.int (nI i)), none] [] σ := by
      refine z_up (fun i hi ih hO => ?_)
      by_cases hie : i = q.1
      · subst hie
        refine z_iload_n 32 dX10_on_31 rfl rfl ?_
        refine z_aload_n 33 dX10_on_32 rfl rfl ?_
        refine gX10_17 36 rfl dX10_on_33 rfl ?_
        refine z_iload_n 37 dX10_on_36 rfl rfl ?_
        refine z_ialdn 38 dX10_on_37 rfl (by first | assumption | rfl) (by omega) ?_
        rw [hs]
        refine z_icmp_ge 66 41 dX10_on_38 (by decide) rfl (fun h38 => ?_) (fun h38 => ?_)
        · (try rw [nI_leI (by omega) (by omega)] at h38)
          refine z_aload_n 67 dX10_on_66 rfl rfl ?_
          refine z_aload_n 68 dX10_on_67 rfl rfl ?_
          refine gX10_17 71 rfl dX10_on_68 rfl ?_
          refine z_iload_n 72 dX10_on_71 rfl rfl ?_
          refine z_ialdn 73 dX10_on_72 rfl (by first | assumption | rfl) (by omega) ?_
          rw [hs]
          refine pX10_138 76 rfl dX10_on_73 rfl ?_
          refine z_iconst 77 (v := nI 0) dX10_on_76 rfl rfl ?_
          refine zs_istore_n_3_5 78 rfl dX10_on_77 rfl rfl ?_
          exact loop2 hO 0 (Nat.zero_le _) _ (Fr.rf.si _ (by omega)) (gi_s1 _ _ _ _) (fun p hp => absurd hp (Nat.not_lt_zero p))
        · (try rw [nI_leI (by omega) (by omega)] at h38)
          omega
      · have hil : i < q.1 := by omega
        have hgv : gi σ 105 (40 * r + i) = q.2 i := hS.2.2 i hil
        refine z_iload_n 32 dX10_on_31 rfl rfl ?_
        refine z_aload_n 33 dX10_on_32 rfl rfl ?_
        refine gX10_17 36 rfl dX10_on_33 rfl ?_
        refine z_iload_n 37 dX10_on_36 rfl rfl ?_
        refine z_ialdn 38 dX10_on_37 rfl (by first | assumption | rfl) (by omega) ?_
        rw [hs]
        refine z_icmp_ge 66 41 dX10_on_38 (by decide) rfl (fun h38 => ?_) (fun h38 => ?_)
        · (try rw [nI_leI (by omega) (by omega)] at h38)
          omega
        · (try rw [nI_leI (by omega) (by omega)] at h38)
          refine z_aload_n 42 dX10_on_41 rfl rfl ?_
          refine z_aload_n 43 dX10_on_42 rfl rfl ?_
          refine z_iload_n 44 dX10_on_43 rfl rfl ?_
          refine z_iload_n 45 dX10_on_44 rfl rfl ?_
          refine z_cVI2 48 (tX10_rowAt (by omega) (by omega)) kX10_rowAt dX10_on_45 rfl lX10_113 (by first | assumption | rfl) (Nat.le_of_ble_eq_true rfl) ?_
          rintro _ _ ⟨e1, e2⟩
          replace e1 := e1.symm
          replace e2 := e2.symm
          subst e1
          subst e2
          rw [hgv]
          refine z_cVI1 51 (tX10_isPlayerBy (by assumption) (by assumption)) kX10_isPlayerBy dX10_on_48 rfl lX10_329 (by first | assumption | rfl) (Nat.le_of_ble_eq_true rfl) ?_
          rintro _ _ ⟨e1, e2⟩
          replace e1 := e1.symm
          replace e2 := e2.symm
          subst e1
          subst e2
          refine z_ifb_ne 60 54 dX10_on_51 (by decide) rfl (fun h51 => ?_) (fun h51 => ?_)
          · refine zs_iinc_3_5_1 63 rfl dX10_on_60 rfl rfl ?_
            rw [nI_add]
            refine z_goto 31 dX10_on_63 rfl ?_
            refine ih (i + 1) (by omega) (by omega) (fun k hk => ?_)
            by_cases hki : k = i
            · rw [hki]; exact h51
            · exact hO k (by omega)
          · rw [if_neg (fun z => h51 (z i hil))] at eF
            rw [eF, if_pos (by decide)] at e0
            refine z_aload_n 55 dX10_on_54 rfl rfl ?_
            refine z_iconst 56 (v := nI 3) dX10_on_55 rfl rfl ?_
            refine z_cVI1 59 (tX10_meets (by omega)) kX10_meets dX10_on_56 rfl lX10_99 (by first | assumption | rfl) (Nat.le_of_ble_eq_true rfl) ?_
            rintro _ _ ⟨e1, e2⟩
            replace e1 := e1.symm
            replace e2 := e2.symm
            subst e1
            subst e2
            refine z_ri dX10_on_59 rfl ?_
            exact qmf hW e0 (by decide) hX Fr.rf
    refine z_aload_n 1 dX10_on_0 rfl rfl ?_
    refine z_iload_n 2 dX10_on_1 rfl rfl ?_
    refine z_cVI1 5 (tX10_aR3 hr hX ho) kX10_askedRow dX10_on_2 rfl lX10_110 (by first | assumption | rfl) (Nat.le_of_ble_eq_true rfl) ?_
    rintro _ _ ⟨e1, e2⟩
    replace e1 := e1.symm
    replace e2 := e2.symm
    subst e1
    subst e2
    refine zs_istore_n_2_5 6 rfl dX10_on_5 rfl rfl ?_
    refine z_iload_n 7 dX10_on_6 rfl rfl ?_
    refine z_if_ge 12 10 dX10_on_7 (by decide) rfl (fun h7 => ?_) (fun h7 => ?_)
    · refine z_aload_n 13 dX10_on_12 rfl rfl ?_
      refine gX10_17 16 rfl dX10_on_13 rfl ?_
      refine z_iload_n 17 dX10_on_16 rfl rfl ?_
      refine z_ialdn 18 dX10_on_17 rfl (by first | assumption | rfl) (by omega) ?_
      rw [hs]
      refine z_bipush 20 (v := nI 8) dX10_on_18 rfl rfl ?_
      refine z_icmp_le 29 23 dX10_on_20 (by decide) rfl (fun h20 => ?_) (fun h20 => ?_)
      · (try rw [nI_leI (by omega) (by omega)] at h20)
        refine z_iconst 30 (v := nI 0) dX10_on_29 rfl rfl ?_
        refine zs_istore_n_3_5 31 rfl dX10_on_30 rfl rfl ?_
        exact loop1 0 (Nat.zero_le _) (fun k hk => absurd hk (Nat.not_lt_zero k))
      · (try rw [nI_leI (by omega) (by omega)] at h20)
        omega
    · exact absurd (nI_pos' (by decide)) h7
