/-! odds of the landed code -/
def OdX (σ : zM) (bw : Nat) (o : Nat → Nat) : Prop := ∀ w, w < bw → gl σ 17 w = lN (o w)
set_option maxRecDepth 20000 in
theorem tX5_whole {E : zE} {d : Nat} {σ : zM} {n : Nat} (hn : gi σ 13 5 = nI n) (h8 : n ≤ 8) : Ret E mX5_whole d [zr E 13] σ (qJ fun x τ => x = lN (24 ^ (n / 2)) ∧ τ = σ) := by
  refine Ret.of [some (zr E 13), none, none, none] (by decide +kernel) (Nat.le_of_ble_eq_true rfl) rfl ?_
  have loop : ∀ i, i ≤ n / 2 → At E mX5_whole d (qJ fun x τ => x = lN (24 ^ (n / 2)) ∧ τ = σ) 4 [some (zr E 13), some (.long (lN (24 ^ i))), none, some (.int (nI i))] [] σ := by
    refine z_up (fun i hi ih => ?_)
    by_cases hie : i = n / 2
    · rw [hie]
      refine z_iload_n 5 dX5_whole_4 rfl rfl ?_
      refine z_aload_n 6 dX5_whole_5 rfl rfl ?_
      refine gX5_43 9 rfl dX5_whole_6 rfl (by first | assumption | rfl) ?_
      rw [hn]
      refine z_iconst 10 (v := nI 2) dX5_whole_9 rfl rfl ?_
      refine z_idiv 11 dX5_whole_10 rfl (by decide) ?_
      rw [pk_div (by omega) (by decide) (by decide)]
      refine z_icmp_ge 26 14 dX5_whole_11 (by decide) rfl (fun h11 => ?_) (fun h11 => ?_)
      · (try rw [nI_leI (by omega) (by omega)] at h11)
        refine z_lload_n 27 dX5_whole_26 rfl rfl ?_
        refine z_rl dX5_whole_27 rfl ?_
        exact ⟨rfl, rfl⟩
      · (try rw [nI_leI (by omega) (by omega)] at h11)
        omega
    · have hih := ih (i + 1) (by omega) (by omega)
      rw [Nat.pow_succ] at hih
      refine z_iload_n 5 dX5_whole_4 rfl rfl ?_
      refine z_aload_n 6 dX5_whole_5 rfl rfl ?_
      refine gX5_43 9 rfl dX5_whole_6 rfl (by first | assumption | rfl) ?_
      rw [hn]
      refine z_iconst 10 (v := nI 2) dX5_whole_9 rfl rfl ?_
      refine z_idiv 11 dX5_whole_10 rfl (by decide) ?_
      rw [pk_div (by omega) (by decide) (by decide)]
      refine z_icmp_ge 26 14 dX5_whole_11 (by decide) rfl (fun h11 => ?_) (fun h11 => ?_)
      · (try rw [nI_leI (by omega) (by omega)] at h11)
        omega
      · (try rw [nI_leI (by omega) (by omega)] at h11)
        refine z_lload_n 15 dX5_whole_14 rfl rfl ?_
        refine z_ldc2 18 dX5_whole_15 rfl qX5_51 ?_
        refine z_lmul 19 dX5_whole_18 rfl ?_
        rw [show (24 : Int64) = lN 24 from rfl, lN_mul]
        refine zs_lstore_n_1_4 20 rfl dX5_whole_19 rfl rfl ?_
        refine zs_iinc_3_4_1 23 rfl dX5_whole_20 rfl rfl ?_
        rw [nI_add]
        refine z_goto 4 dX5_whole_23 rfl ?_
        exact hih
  refine z_lconst 1 (v := 1) dX5_whole_0 rfl rfl ?_
  refine zs_lstore_n_1_4 2 rfl dX5_whole_1 rfl rfl ?_
  refine z_iconst 3 (v := nI 0) dX5_whole_2 rfl rfl ?_
  refine zs_istore_n_3_4 4 rfl dX5_whole_3 rfl rfl ?_
  exact loop 0 (Nat.zero_le _)
set_option maxRecDepth 20000 in
theorem tX5_begin {E : zE} {d : Nat} {σ : zM} {bw w : Nat} (hr : gi σ 13 6 = nI bw) (h8 : bw ≤ 8) (hw : w < bw) : Ret E mX5_begin d [zr E 13, .int (nI w)] σ (qV fun τ => Fr (fun x y => x = 17) σ τ ∧ OdX τ bw (eW w)) := by
  refine Ret.of [some (zr E 13), some (.int (nI w)), none] (by decide +kernel) (Nat.le_of_ble_eq_true rfl) rfl ?_
  have loop : ∀ i, i ≤ bw → ∀ τ, Fr (fun x y => x = 17) σ τ → (∀ v, v < i → gl τ 17 v = lN (eW w v)) → At E mX5_begin d (qV fun τ => Fr (fun x y => x = 17) σ τ ∧ OdX τ bw (eW w)) 2 [some (zr E 13), some (.int (nI w)), some (.int (nI i))] [] τ := by
    refine z_up (fun i hi ih τ hF hv => ?_)
    have hr' : gi τ 13 6 = nI bw := (hF.gi (by omega)).trans hr
    by_cases hie : i = bw
    · rw [hie] at hv
      refine z_iload_n 3 dX5_begin_2 rfl rfl ?_
      refine z_aload_n 4 dX5_begin_3 rfl rfl ?_
      refine gX5_34 7 rfl dX5_begin_4 rfl (by first | assumption | rfl) ?_
      rw [hr']
      refine z_icmp_ge 32 10 dX5_begin_7 (by decide) rfl (fun h7 => ?_) (fun h7 => ?_)
      · (try rw [nI_leI (by omega) (by omega)] at h7)
        refine z_rv dX5_begin_32 rfl ?_
        exact ⟨hF, hv⟩
      · (try rw [nI_leI (by omega) (by omega)] at h7)
        omega
    · refine z_iload_n 3 dX5_begin_2 rfl rfl ?_
      refine z_aload_n 4 dX5_begin_3 rfl rfl ?_
      refine gX5_34 7 rfl dX5_begin_4 rfl (by first | assumption | rfl) ?_
      rw [hr']
      refine z_icmp_ge 32 10 dX5_begin_7 (by decide) rfl (fun h7 => ?_) (fun h7 => ?_)
      · (try rw [nI_leI (by omega) (by omega)] at h7)
        omega
      · (try rw [nI_leI (by omega) (by omega)] at h7)
        refine z_aload_n 11 dX5_begin_10 rfl rfl ?_
        refine gX5_21 14 rfl dX5_begin_11 rfl (by first | assumption | rfl) ?_
        refine z_iload_n 15 dX5_begin_14 rfl rfl ?_
        refine z_iload_n 16 dX5_begin_15 rfl rfl ?_
        refine z_iload_n 17 dX5_begin_16 rfl rfl ?_
        refine z_icmp_ne 24 20 dX5_begin_17 (by decide) rfl (fun h17 => ?_) (fun h17 => ?_)
        · (try rw [nI_eq (by omega) (by omega)] at h17)
          have er : (0 : Int64) = lN (eW w i) := by (unfold eW; rw [if_neg h17]; rfl)
          refine z_lconst 25 (v := 0) dX5_begin_24 rfl rfl ?_
          refine z_lastn 26 dX5_begin_25 rfl (by first | assumption | rfl) (by omega) ?_
          refine zs_iinc_2_3_1 29 rfl dX5_begin_26 rfl rfl ?_
          rw [nI_add]
          refine z_goto 2 dX5_begin_29 rfl ?_
          exact ih (i + 1) (by omega) (by omega) _ (hF.sl _ rfl) (fun v hvv => by
            rw [gl_sl]
            by_cases hki : v = i
            · rw [if_pos ⟨rfl, hki⟩, hki]; exact er
            · rw [if_neg (fun z => hki z.2)]; exact hv v (by omega))
        · (try rw [nI_eq (by omega) (by omega)] at h17)
          have er : (1 : Int64) = lN (eW w i) := by (unfold eW; rw [if_pos h17]; rfl)
          refine z_lconst 21 (v := 1) dX5_begin_20 rfl rfl ?_
          refine z_goto 25 dX5_begin_21 rfl ?_
          refine z_lastn 26 dX5_begin_25 rfl (by first | assumption | rfl) (by omega) ?_
          refine zs_iinc_2_3_1 29 rfl dX5_begin_26 rfl rfl ?_
          rw [nI_add]
          refine z_goto 2 dX5_begin_29 rfl ?_
          exact ih (i + 1) (by omega) (by omega) _ (hF.sl _ rfl) (fun v hvv => by
            rw [gl_sl]
            by_cases hki : v = i
            · rw [if_pos ⟨rfl, hki⟩, hki]; exact er
            · rw [if_neg (fun z => hki z.2)]; exact hv v (by omega))
  refine z_iconst 1 (v := nI 0) dX5_begin_0 rfl rfl ?_
  refine zs_istore_n_2_3 2 rfl dX5_begin_1 rfl rfl ?_
  exact loop 0 (Nat.zero_le _) σ Fr.rf (fun v hv => absurd hv (Nat.not_lt_zero v))
set_option maxRecDepth 20000 in
theorem tX5_beginWithAll {E : zE} {d : Nat} {σ : zM} : Ret E mX5_beginWithAll d [zr E 13] σ (qV fun τ => Fr (fun x y => x = 17) σ τ ∧ ∀ v, v < 8 → gl τ 17 v = lN 1) := by
  refine Ret.of [some (zr E 13), none] (by decide +kernel) (Nat.le_of_ble_eq_true rfl) rfl ?_
  have loop : ∀ i, i ≤ 8 → ∀ τ, Fr (fun x y => x = 17) σ τ → (∀ v, v < i → gl τ 17 v = lN 1) → At E mX5_beginWithAll d (qV fun τ => Fr (fun x y => x = 17) σ τ ∧ ∀ v, v < 8 → gl τ 17 v = lN 1) 2 [some (zr E 13), some (.int (nI i))] [] τ := by
    refine z_up (fun i hi ih τ hF hv => ?_)
    by_cases hie : i = 8
    · rw [hie] at hv ⊢
      refine z_iload_n 3 dX5_beginWithAll_2 rfl rfl ?_
      refine z_bipush 5 (v := nI 8) dX5_beginWithAll_3 rfl rfl ?_
      refine z_icmp_ge 21 8 dX5_beginWithAll_5 (by decide) rfl (fun h5 => ?_) (fun h5 => ?_)
      · (try rw [nI_leI (by omega) (by omega)] at h5)
        refine z_rv dX5_beginWithAll_21 rfl ?_
        exact ⟨hF, hv⟩
      · (try rw [nI_leI (by omega) (by omega)] at h5)
        omega
    · refine z_iload_n 3 dX5_beginWithAll_2 rfl rfl ?_
      refine z_bipush 5 (v := nI 8) dX5_beginWithAll_3 rfl rfl ?_
      refine z_icmp_ge 21 8 dX5_beginWithAll_5 (by decide) rfl (fun h5 => ?_) (fun h5 => ?_)
      · (try rw [nI_leI (by omega) (by omega)] at h5)
        omega
      · (try rw [nI_leI (by omega) (by omega)] at h5)
        refine z_aload_n 9 dX5_beginWithAll_8 rfl rfl ?_
        refine gX5_21 12 rfl dX5_beginWithAll_9 rfl (by first | assumption | rfl) ?_
        refine z_iload_n 13 dX5_beginWithAll_12 rfl rfl ?_
        refine z_lconst 14 (v := 1) dX5_beginWithAll_13 rfl rfl ?_
        refine z_lastn 15 dX5_beginWithAll_14 rfl (by first | assumption | rfl) (by omega) ?_
        refine zs_iinc_1_2_1 18 rfl dX5_beginWithAll_15 rfl rfl ?_
        rw [nI_add]
        refine z_goto 2 dX5_beginWithAll_18 rfl ?_
        exact ih (i + 1) (by omega) (by omega) _ (hF.sl _ rfl) (fun v hvv => by
          rw [gl_sl]
          by_cases hki : v = i
          · rw [if_pos ⟨rfl, hki⟩]; rfl
          · rw [if_neg (fun z => hki z.2)]; exact hv v (by omega))
  refine z_iconst 1 (v := nI 0) dX5_beginWithAll_0 rfl rfl ?_
  refine zs_istore_n_1_2 2 rfl dX5_beginWithAll_1 rfl rfl ?_
  exact loop 0 (Nat.zero_le _) σ Fr.rf (fun v hv => absurd hv (Nat.not_lt_zero v))
set_option maxRecDepth 20000 in
theorem tX5_stepBase {E : zE} {d : Nat} {σ : zM} {n bw s k : Nat} {t : Nat → Nat} (hD : RdT σ n bw t) (h1 : 1 ≤ n) (h8 : n ≤ 8) (hs : s < 8) (hk : k < 8) : Ret E mX5_stepBase d [zr E 13, .int (nI s), .int (nI k)] σ (qI fun x τ => x = nI ((t ((s + 2 * k) % n) * 8 + t ((s + 2 * k + 1) % n)) * 64) ∧ τ = σ) := by
  have m1 := Nat.mod_lt (s + 2 * k) (show n > 0 by omega)
  have m2 := Nat.mod_lt (s + 2 * k + 1) (show n > 0 by omega)
  have hne : ¬ nI n = 0 := fun z => by
    rw [nI_eq0 (by omega)] at z
    omega
  refine Ret.of [some (zr E 13), some (.int (nI s)), some (.int (nI k)), none, none] (by decide +kernel) (Nat.le_of_ble_eq_true rfl) rfl ?_
  refine z_aload_n 1 dX5_stepBase_0 rfl rfl ?_
  refine gX5_43 4 rfl dX5_stepBase_1 rfl (by first | assumption | rfl) ?_
  rw [hD.1]
  refine z_iconst 5 (v := nI 1) dX5_stepBase_4 rfl rfl ?_
  refine z_icmp_ge 10 8 dX5_stepBase_5 (by decide) rfl (fun h5 => ?_) (fun h5 => ?_)
  · (try rw [nI_leI (by omega) (by omega)] at h5)
    refine z_aload_n 11 dX5_stepBase_10 rfl rfl ?_
    refine gX5_15 14 rfl dX5_stepBase_11 rfl (by first | assumption | rfl) ?_
    refine z_iload_n 15 dX5_stepBase_14 rfl rfl ?_
    refine z_iconst 16 (v := nI 2) dX5_stepBase_15 rfl rfl ?_
    refine z_iload_n 17 dX5_stepBase_16 rfl rfl ?_
    refine z_imul 18 dX5_stepBase_17 rfl ?_
    rw [nI_mul]
    refine z_iadd 19 dX5_stepBase_18 rfl ?_
    rw [nI_add]
    refine z_aload_n 20 dX5_stepBase_19 rfl rfl ?_
    refine gX5_43 23 rfl dX5_stepBase_20 rfl (by first | assumption | rfl) ?_
    rw [hD.1]
    refine z_irem 24 dX5_stepBase_23 rfl hne ?_
    rw [pk_rem (by omega) (by omega) (by omega)]
    refine z_ialdn 25 dX5_stepBase_24 rfl (by first | assumption | rfl) (by omega) ?_
    rw [hD.2.2 _ m1]
    refine zs_istore_n_3_5 26 rfl dX5_stepBase_25 rfl rfl ?_
    refine z_aload_n 27 dX5_stepBase_26 rfl rfl ?_
    refine gX5_15 30 rfl dX5_stepBase_27 rfl (by first | assumption | rfl) ?_
    refine z_iload_n 31 dX5_stepBase_30 rfl rfl ?_
    refine z_iconst 32 (v := nI 2) dX5_stepBase_31 rfl rfl ?_
    refine z_iload_n 33 dX5_stepBase_32 rfl rfl ?_
    refine z_imul 34 dX5_stepBase_33 rfl ?_
    rw [nI_mul]
    refine z_iadd 35 dX5_stepBase_34 rfl ?_
    rw [nI_add]
    refine z_iconst 36 (v := nI 1) dX5_stepBase_35 rfl rfl ?_
    refine z_iadd 37 dX5_stepBase_36 rfl ?_
    rw [nI_add]
    refine z_aload_n 38 dX5_stepBase_37 rfl rfl ?_
    refine gX5_43 41 rfl dX5_stepBase_38 rfl (by first | assumption | rfl) ?_
    rw [hD.1]
    refine z_irem 42 dX5_stepBase_41 rfl hne ?_
    rw [pk_rem (by omega) (by omega) (by omega)]
    refine z_ialdn 43 dX5_stepBase_42 rfl (by first | assumption | rfl) (by omega) ?_
    rw [hD.2.2 _ m2]
    refine zs_istore_4_5 45 rfl dX5_stepBase_43 rfl rfl ?_
    refine z_iload_n 46 dX5_stepBase_45 rfl rfl ?_
    refine z_bipush 48 (v := nI 8) dX5_stepBase_46 rfl rfl ?_
    refine z_imul 49 dX5_stepBase_48 rfl ?_
    rw [nI_mul]
    refine z_iload 51 dX5_stepBase_49 rfl rfl ?_
    refine z_iadd 52 dX5_stepBase_51 rfl ?_
    rw [nI_add]
    refine z_bipush 54 (v := nI 8) dX5_stepBase_52 rfl rfl ?_
    refine z_imul 55 dX5_stepBase_54 rfl ?_
    rw [nI_mul]
    refine z_bipush 57 (v := nI 8) dX5_stepBase_55 rfl rfl ?_
    refine z_imul 58 dX5_stepBase_57 rfl ?_
    rw [nI_mul, show (t ((s + 2 * k) % n) * 8 + t ((s + 2 * k + 1) % n)) * 8 * 8 = (t ((s + 2 * k) % n) * 8 + t ((s + 2 * k + 1) % n)) * 64 by omega]
    refine z_ri dX5_stepBase_58 rfl ?_
    exact ⟨rfl, rfl⟩
  · (try rw [nI_leI (by omega) (by omega)] at h5)
    omega
abbrev fOd (x _ : Nat) : Prop := x = 17 ∨ x = 18
set_option maxRecDepth 20000 in
theorem tX5_pass {E : zE} {d : Nat} {σ : zM} {S : sS} {p q : Nat} {o : Nat → Nat} (hW : WF S) (hp : p < 8) (hq8 : q < 8) (hq : q < sPc S) (hr : gi σ 13 6 = nI (sBw S 0)) (hS : StK S σ p q) (hO : OdX σ (sBw S 0) o) (hB : ∀ w, w < sBw S 0 → o w < 2 ^ 63) : Ret E mX5_pass d [zr E 13, .int (nI ((p * 8 + q) * 64))] σ (qV fun τ => Fr fOd σ τ ∧ OdX τ (sBw S 0) (nxO S p q o)) := by
  have hb8 := bw_le hW (show 0 < 2 by omega)
  refine Ret.of [some (zr E 13), some (.int (nI ((p * 8 + q) * 64))), none, none] (by decide +kernel) (Nat.le_of_ble_eq_true rfl) rfl ?_
  have l3 : ∀ i, i ≤ sBw S 0 → ∀ y τ, Fr fOd σ τ → (∀ v, v < sBw S 0 → gl τ 18 v = lN (nxO S p q o v)) → (∀ v, v < i → gl τ 17 v = lN (nxO S p q o v)) → At E mX5_pass d (qV fun τ => Fr fOd σ τ ∧ OdX τ (sBw S 0) (nxO S p q o)) 98 [some (zr E 13), some (.int (nI ((p * 8 + q) * 64))), some (.int (nI i)), y] [] τ := by
    refine z_up (fun i hi ih y τ hF hN hv => ?_)
    have hr' : gi τ 13 6 = nI (sBw S 0) := (hF.gi (by omega)).trans hr
    by_cases hie : i = sBw S 0
    · rw [hie] at hv
      refine z_iload_n 99 dX5_pass_98 rfl rfl ?_
      refine z_aload_n 100 dX5_pass_99 rfl rfl ?_
      refine gX5_34 103 rfl dX5_pass_100 rfl (by first | assumption | rfl) ?_
      rw [hr']
      refine z_icmp_ge 124 106 dX5_pass_103 (by decide) rfl (fun h103 => ?_) (fun h103 => ?_)
      · (try rw [nI_leI (by omega) (by omega)] at h103)
        refine z_rv dX5_pass_124 rfl ?_
        exact ⟨hF, hv⟩
      · (try rw [nI_leI (by omega) (by omega)] at h103)
        omega
    · refine z_iload_n 99 dX5_pass_98 rfl rfl ?_
      refine z_aload_n 100 dX5_pass_99 rfl rfl ?_
      refine gX5_34 103 rfl dX5_pass_100 rfl (by first | assumption | rfl) ?_
      rw [hr']
      refine z_icmp_ge 124 106 dX5_pass_103 (by decide) rfl (fun h103 => ?_) (fun h103 => ?_)
      · (try rw [nI_leI (by omega) (by omega)] at h103)
        omega
      · (try rw [nI_leI (by omega) (by omega)] at h103)
        refine z_aload_n 107 dX5_pass_106 rfl rfl ?_
        refine gX5_21 110 rfl dX5_pass_107 rfl (by first | assumption | rfl) ?_
        refine z_iload_n 111 dX5_pass_110 rfl rfl ?_
        refine z_aload_n 112 dX5_pass_111 rfl rfl ?_
        refine gX5_25 115 rfl dX5_pass_112 rfl (by first | assumption | rfl) ?_
        refine z_iload_n 116 dX5_pass_115 rfl rfl ?_
        refine z_laldn 117 dX5_pass_116 rfl (by first | assumption | rfl) (by omega) ?_
        rw [hN i (by omega)]
        refine z_lastn 118 dX5_pass_117 rfl (by first | assumption | rfl) (by omega) ?_
        refine zs_iinc_2_4_1 121 rfl dX5_pass_118 rfl rfl ?_
        rw [nI_add]
        refine z_goto 98 dX5_pass_121 rfl ?_
        exact ih (i + 1) (by omega) (by omega) y _ (hF.sl _ (Or.inl rfl)) (fun v hvv => (gl_s2 _ _ (by omega)).trans (hN v hvv)) (fun v hvv => by
          rw [gl_sl]
          by_cases hki : v = i
          · rw [if_pos ⟨rfl, hki⟩, hki]
          · rw [if_neg (fun z => hki z.2)]; exact hv v (by omega))
  have l2 : ∀ i, i ≤ sBw S 0 → ∀ y τ, Fr (fun x _ => x = 18) σ τ → (∀ v, v < sBw S 0 → gl τ 18 v = lN (nxP S p q o i v)) → At E mX5_pass d (qV fun τ => Fr fOd σ τ ∧ OdX τ (sBw S 0) (nxO S p q o)) 25 [some (zr E 13), some (.int (nI ((p * 8 + q) * 64))), some (.int (nI i)), y] [] τ := by
    refine z_up (fun i hi ih y τ hF hN => ?_)
    have hr' : gi τ 13 6 = nI (sBw S 0) := (hF.gi (by omega)).trans hr
    by_cases hie : i = sBw S 0
    · rw [hie] at hN
      refine z_iload_n 26 dX5_pass_25 rfl rfl ?_
      refine z_aload_n 27 dX5_pass_26 rfl rfl ?_
      refine gX5_34 30 rfl dX5_pass_27 rfl (by first | assumption | rfl) ?_
      rw [hr']
      refine z_icmp_ge 96 33 dX5_pass_30 (by decide) rfl (fun h30 => ?_) (fun h30 => ?_)
      · (try rw [nI_leI (by omega) (by omega)] at h30)
        refine z_iconst 97 (v := nI 0) dX5_pass_96 rfl rfl ?_
        refine zs_istore_n_2_4 98 rfl dX5_pass_97 rfl rfl ?_
        exact l3 0 (Nat.zero_le _) _ τ (hF.mono (fun _ _ h => Or.inr h)) hN (fun v hv => absurd hv (Nat.not_lt_zero v))
      · (try rw [nI_leI (by omega) (by omega)] at h30)
        omega
    · have hil : i < sBw S 0 := by omega
      have er : ∀ v, nxP S p q o (i + 1) v = nxP S p q o i v + o i * stp S p q i v := fun v => rfl
      by_cases h0 : o i = 0
      · have hO' : gl τ 17 i = lN 0 := by rw [hF.gl (by omega), hO i hil, h0]
        have e2 : ∀ v, nxP S p q o (i + 1) v = nxP S p q o i v := fun v => by rw [er, h0, Nat.zero_mul, Nat.add_zero]
        have hb0 : ¬ sBw S 0 ≤ 0 := by omega
        refine z_iload_n 26 dX5_pass_25 rfl rfl ?_
        refine z_aload_n 27 dX5_pass_26 rfl rfl ?_
        refine gX5_34 30 rfl dX5_pass_27 rfl (by first | assumption | rfl) ?_
        rw [hr']
        refine z_icmp_ge 96 33 dX5_pass_30 (by decide) rfl (fun h30 => ?_) (fun h30 => ?_)
        · (try rw [nI_leI (by omega) (by omega)] at h30)
          omega
        · (try rw [nI_leI (by omega) (by omega)] at h30)
          refine z_iconst 34 (v := nI 0) dX5_pass_33 rfl rfl ?_
          refine zs_istore_n_3_4 35 rfl dX5_pass_34 rfl rfl ?_
          refine z_iload_n 36 dX5_pass_35 rfl rfl ?_
          refine z_aload_n 37 dX5_pass_36 rfl rfl ?_
          refine gX5_34 40 rfl dX5_pass_37 rfl (by first | assumption | rfl) ?_
          rw [hr']
          refine z_icmp_ge 90 43 dX5_pass_40 (by decide) rfl (fun h40 => ?_) (fun h40 => ?_)
          · (try rw [nI_leI (by omega) (by omega)] at h40)
            exact absurd (by omega) hb0
          · (try rw [nI_leI (by omega) (by omega)] at h40)
            refine z_aload_n 44 dX5_pass_43 rfl rfl ?_
            refine gX5_21 47 rfl dX5_pass_44 rfl (by first | assumption | rfl) ?_
            refine z_iload_n 48 dX5_pass_47 rfl rfl ?_
            refine z_laldn 49 dX5_pass_48 rfl (by first | assumption | rfl) (by omega) ?_
            rw [hO']
            refine z_lconst 50 (v := 0) dX5_pass_49 rfl rfl ?_
            refine z_lcmp 51 dX5_pass_50 rfl ?_
            refine z_if_eq 90 54 dX5_pass_51 (by decide) rfl (fun h51 => ?_) (fun h51 => ?_)
            · rw [lg_cmp_eq] at h51
              refine zs_iinc_2_4_1 93 rfl dX5_pass_90 rfl rfl ?_
              rw [nI_add]
              refine z_goto 25 dX5_pass_93 rfl ?_
              exact ih (i + 1) (by omega) (by omega) _ τ hF (fun v hv => by rw [e2]; exact hN v hv)
            · rw [lg_cmp_eq] at h51
              exact absurd rfl h51
      · have inner : ∀ j, j ≤ sBw S 0 → ∀ τ, Fr (fun x _ => x = 18) σ τ → (∀ v, v < sBw S 0 → gl τ 18 v = lN (nxP S p q o (if v < j then i + 1 else i) v)) → At E mX5_pass d (qV fun τ => Fr fOd σ τ ∧ OdX τ (sBw S 0) (nxO S p q o)) 35 [some (zr E 13), some (.int (nI ((p * 8 + q) * 64))), some (.int (nI i)), some (.int (nI j))] [] τ := by
          refine z_up (fun j hj jh τ hF hN => ?_)
          have hr' : gi τ 13 6 = nI (sBw S 0) := (hF.gi (by omega)).trans hr
          have hO' : gl τ 17 i = lN (o i) := by rw [hF.gl (by omega), hO i hil]
          have hob := hB i hil
          by_cases hje : j = sBw S 0
          · rw [hje] at hN
            refine z_iload_n 36 dX5_pass_35 rfl rfl ?_
            refine z_aload_n 37 dX5_pass_36 rfl rfl ?_
            refine gX5_34 40 rfl dX5_pass_37 rfl (by first | assumption | rfl) ?_
            rw [hr']
            refine z_icmp_ge 90 43 dX5_pass_40 (by decide) rfl (fun h40 => ?_) (fun h40 => ?_)
            · (try rw [nI_leI (by omega) (by omega)] at h40)
              refine zs_iinc_2_4_1 93 rfl dX5_pass_90 rfl rfl ?_
              rw [nI_add]
              refine z_goto 25 dX5_pass_93 rfl ?_
              exact ih (i + 1) (by omega) (by omega) _ τ hF (fun v hv => by
                have := hN v hv
                rw [if_pos hv] at this
                exact this)
            · (try rw [nI_leI (by omega) (by omega)] at h40)
              omega
          · have hjl : j < sBw S 0 := by omega
            have hst := stp_le hW hq p i hjl
            have hNj := hN j hjl
            rw [if_neg (Nat.lt_irrefl j)] at hNj
            have hSj : gi τ 14 ((p * 8 + q) * 64 + i * 8 + j) = nI (stp S p q i j) := (hF.gi (by omega)).trans (hS i hil j hjl)
            refine z_iload_n 36 dX5_pass_35 rfl rfl ?_
            refine z_aload_n 37 dX5_pass_36 rfl rfl ?_
            refine gX5_34 40 rfl dX5_pass_37 rfl (by first | assumption | rfl) ?_
            rw [hr']
            refine z_icmp_ge 90 43 dX5_pass_40 (by decide) rfl (fun h40 => ?_) (fun h40 => ?_)
            · (try rw [nI_leI (by omega) (by omega)] at h40)
              omega
            · (try rw [nI_leI (by omega) (by omega)] at h40)
              refine z_aload_n 44 dX5_pass_43 rfl rfl ?_
              refine gX5_21 47 rfl dX5_pass_44 rfl (by first | assumption | rfl) ?_
              refine z_iload_n 48 dX5_pass_47 rfl rfl ?_
              refine z_laldn 49 dX5_pass_48 rfl (by first | assumption | rfl) (by omega) ?_
              rw [hO']
              refine z_lconst 50 (v := 0) dX5_pass_49 rfl rfl ?_
              refine z_lcmp 51 dX5_pass_50 rfl ?_
              refine z_if_eq 90 54 dX5_pass_51 (by decide) rfl (fun h51 => ?_) (fun h51 => ?_)
              · rw [lg_cmp_eq] at h51
                exact absurd ((pk_lEQ hob (by decide)).mp h51) h0
              · rw [lg_cmp_eq] at h51
                refine z_aload_n 55 dX5_pass_54 rfl rfl ?_
                refine gX5_25 58 rfl dX5_pass_55 rfl (by first | assumption | rfl) ?_
                refine z_iload_n 59 dX5_pass_58 rfl rfl ?_
                refine z_dup2 60 dX5_pass_59 rfl rfl rfl ?_
                refine z_laldn 61 dX5_pass_60 rfl (by first | assumption | rfl) (by omega) ?_
                rw [hNj]
                refine z_aload_n 62 dX5_pass_61 rfl rfl ?_
                refine gX5_21 65 rfl dX5_pass_62 rfl (by first | assumption | rfl) ?_
                refine z_iload_n 66 dX5_pass_65 rfl rfl ?_
                refine z_laldn 67 dX5_pass_66 rfl (by first | assumption | rfl) (by omega) ?_
                rw [hO']
                refine z_aload_n 68 dX5_pass_67 rfl rfl ?_
                refine gX5_9 71 rfl dX5_pass_68 rfl (by first | assumption | rfl) ?_
                refine z_iload_n 72 dX5_pass_71 rfl rfl ?_
                refine z_iload_n 73 dX5_pass_72 rfl rfl ?_
                refine z_bipush 75 (v := nI 8) dX5_pass_73 rfl rfl ?_
                refine z_imul 76 dX5_pass_75 rfl ?_
                rw [nI_mul]
                refine z_iadd 77 dX5_pass_76 rfl ?_
                rw [nI_add]
                refine z_iload_n 78 dX5_pass_77 rfl rfl ?_
                refine z_iadd 79 dX5_pass_78 rfl ?_
                rw [nI_add]
                refine z_ialdn 80 dX5_pass_79 rfl (by first | assumption | rfl) (by omega) ?_
                rw [hSj]
                refine z_i2l 81 dX5_pass_80 rfl ?_
                rw [nI_l (by omega)]
                refine z_lmul 82 dX5_pass_81 rfl ?_
                rw [lN_mul]
                refine z_ladd 83 dX5_pass_82 rfl ?_
                rw [lN_add]
                refine z_lastn 84 dX5_pass_83 rfl (by first | assumption | rfl) (by omega) ?_
                refine zs_iinc_3_4_1 87 rfl dX5_pass_84 rfl rfl ?_
                rw [nI_add]
                refine z_goto 35 dX5_pass_87 rfl ?_
                exact jh (j + 1) (by omega) (by omega) _ (hF.sl _ rfl) (fun v hvv => by
                  rw [gl_sl]
                  by_cases hki : v = j
                  · rw [if_pos ⟨rfl, hki⟩, hki, if_pos (Nat.lt_succ_self j)]; rfl
                  · rw [if_neg (fun z => hki z.2), hN v hvv]
                    by_cases hvj : v < j
                    · rw [if_pos hvj, if_pos (by omega)]
                    · rw [if_neg hvj, if_neg (by omega)])
        refine z_iload_n 26 dX5_pass_25 rfl rfl ?_
        refine z_aload_n 27 dX5_pass_26 rfl rfl ?_
        refine gX5_34 30 rfl dX5_pass_27 rfl (by first | assumption | rfl) ?_
        rw [hr']
        refine z_icmp_ge 96 33 dX5_pass_30 (by decide) rfl (fun h30 => ?_) (fun h30 => ?_)
        · (try rw [nI_leI (by omega) (by omega)] at h30)
          omega
        · (try rw [nI_leI (by omega) (by omega)] at h30)
          refine z_iconst 34 (v := nI 0) dX5_pass_33 rfl rfl ?_
          refine zs_istore_n_3_4 35 rfl dX5_pass_34 rfl rfl ?_
          exact inner 0 (Nat.zero_le _) τ hF (fun v hv => by rw [if_neg (Nat.not_lt_zero v)]; exact hN v hv)
  have l1 : ∀ i, i ≤ sBw S 0 → ∀ y τ, Fr (fun x _ => x = 18) σ τ → (∀ v, v < i → gl τ 18 v = lN 0) → At E mX5_pass d (qV fun τ => Fr fOd σ τ ∧ OdX τ (sBw S 0) (nxO S p q o)) 2 [some (zr E 13), some (.int (nI ((p * 8 + q) * 64))), some (.int (nI i)), y] [] τ := by
    refine z_up (fun i hi ih y τ hF hv => ?_)
    have hr' : gi τ 13 6 = nI (sBw S 0) := (hF.gi (by omega)).trans hr
    by_cases hie : i = sBw S 0
    · rw [hie] at hv
      refine z_iload_n 3 dX5_pass_2 rfl rfl ?_
      refine z_aload_n 4 dX5_pass_3 rfl rfl ?_
      refine gX5_34 7 rfl dX5_pass_4 rfl (by first | assumption | rfl) ?_
      rw [hr']
      refine z_icmp_ge 23 10 dX5_pass_7 (by decide) rfl (fun h7 => ?_) (fun h7 => ?_)
      · (try rw [nI_leI (by omega) (by omega)] at h7)
        refine z_iconst 24 (v := nI 0) dX5_pass_23 rfl rfl ?_
        refine zs_istore_n_2_4 25 rfl dX5_pass_24 rfl rfl ?_
        exact l2 0 (Nat.zero_le _) _ τ hF hv
      · (try rw [nI_leI (by omega) (by omega)] at h7)
        omega
    · refine z_iload_n 3 dX5_pass_2 rfl rfl ?_
      refine z_aload_n 4 dX5_pass_3 rfl rfl ?_
      refine gX5_34 7 rfl dX5_pass_4 rfl (by first | assumption | rfl) ?_
      rw [hr']
      refine z_icmp_ge 23 10 dX5_pass_7 (by decide) rfl (fun h7 => ?_) (fun h7 => ?_)
      · (try rw [nI_leI (by omega) (by omega)] at h7)
        omega
      · (try rw [nI_leI (by omega) (by omega)] at h7)
        refine z_aload_n 11 dX5_pass_10 rfl rfl ?_
        refine gX5_25 14 rfl dX5_pass_11 rfl (by first | assumption | rfl) ?_
        refine z_iload_n 15 dX5_pass_14 rfl rfl ?_
        refine z_lconst 16 (v := 0) dX5_pass_15 rfl rfl ?_
        refine z_lastn 17 dX5_pass_16 rfl (by first | assumption | rfl) (by omega) ?_
        refine zs_iinc_2_4_1 20 rfl dX5_pass_17 rfl rfl ?_
        rw [nI_add]
        refine z_goto 2 dX5_pass_20 rfl ?_
        exact ih (i + 1) (by omega) (by omega) y _ (hF.sl _ rfl) (fun v hvv => by
          rw [gl_sl]
          by_cases hki : v = i
          · rw [if_pos ⟨rfl, hki⟩]; rfl
          · rw [if_neg (fun z => hki z.2)]; exact hv v (by omega))
  refine z_iconst 1 (v := nI 0) dX5_pass_0 rfl rfl ?_
  refine zs_istore_n_2_4 2 rfl dX5_pass_1 rfl rfl ?_
  exact l1 0 (Nat.zero_le _) none σ Fr.rf (fun v hv => absurd hv (Nat.not_lt_zero v))
/-- the steps that a pad from s on takes are known -/
def Adj (S : sS) (σ : zM) (n s : Nat) (t : Nat → Nat) : Prop := ∀ k, k < n / 2 → StK S σ (t ((s + 2 * k) % n)) (t ((s + 2 * k + 1) % n))
theorem Adj.fr {S : sS} {P : Nat → Nat → Prop} {σ τ : zM} {n s : Nat} {t : Nat → Nat} (h : Adj S σ n s t) (hF : Fr P σ τ) (h1 : ∀ j, ¬ P 14 j) : Adj S τ n s t := fun k hk => (h k hk).fr hF h1
set_option maxRecDepth 20000 in
theorem tX5_passFrom {E : zE} {d : Nat} {σ : zM} {S : sS} {n s : Nat} {t o : Nat → Nat} (hW : WF S) (hT : TbOK S n t) (hD : RdT σ n (sBw S 0) t) (hs : s < 8) (hA : Adj S σ n s t) (hO : OdX σ (sBw S 0) o) (hB : ∀ k, k ≤ n / 2 → ∀ w, w < sBw S 0 → odN S t n s o k w < 2 ^ 63) : Ret E mX5_passFrom (d + 1) [zr E 13, .int (nI s)] σ (qV fun τ => Fr fOd σ τ ∧ OdX τ (sBw S 0) (odN S t n s o (n / 2))) := by
  have h8 := hW.2.1.1
  have n2 := hT.1.1
  have n8 := hT.1.2.1
  refine Ret.of [some (zr E 13), some (.int (nI s)), none] (by decide +kernel) (Nat.le_of_ble_eq_true rfl) rfl ?_
  have loop : ∀ i, i ≤ n / 2 → ∀ τ, Fr fOd σ τ → OdX τ (sBw S 0) (odN S t n s o i) → At E mX5_passFrom (d + 1) (qV fun τ => Fr fOd σ τ ∧ OdX τ (sBw S 0) (odN S t n s o (n / 2))) 2 [some (zr E 13), some (.int (nI s)), some (.int (nI i))] [] τ := by
    refine z_up (fun i hi ih τ hF hv => ?_)
    have hD' := hD.fr hF (by omega) (by omega) (by intros; omega)
    by_cases hie : i = n / 2
    · rw [hie] at hv
      refine z_iload_n 3 dX5_passFrom_2 rfl rfl ?_
      refine z_aload_n 4 dX5_passFrom_3 rfl rfl ?_
      refine gX5_43 7 rfl dX5_passFrom_4 rfl (by first | assumption | rfl) ?_
      rw [hD'.1]
      refine z_iconst 8 (v := nI 2) dX5_passFrom_7 rfl rfl ?_
      refine z_idiv 9 dX5_passFrom_8 rfl (by decide) ?_
      rw [pk_div (by omega) (by decide) (by decide)]
      refine z_icmp_ge 28 12 dX5_passFrom_9 (by decide) rfl (fun h9 => ?_) (fun h9 => ?_)
      · (try rw [nI_leI (by omega) (by omega)] at h9)
        refine z_rv dX5_passFrom_28 rfl ?_
        exact ⟨hF, hv⟩
      · (try rw [nI_leI (by omega) (by omega)] at h9)
        omega
    · have hil : i < n / 2 := by omega
      have t1 := (hT.2 _ (Nat.mod_lt (s + 2 * i) (show n > 0 by omega))).1
      have t2 := (hT.2 _ (Nat.mod_lt (s + 2 * i + 1) (show n > 0 by omega))).1
      refine z_iload_n 3 dX5_passFrom_2 rfl rfl ?_
      refine z_aload_n 4 dX5_passFrom_3 rfl rfl ?_
      refine gX5_43 7 rfl dX5_passFrom_4 rfl (by first | assumption | rfl) ?_
      rw [hD'.1]
      refine z_iconst 8 (v := nI 2) dX5_passFrom_7 rfl rfl ?_
      refine z_idiv 9 dX5_passFrom_8 rfl (by decide) ?_
      rw [pk_div (by omega) (by decide) (by decide)]
      refine z_icmp_ge 28 12 dX5_passFrom_9 (by decide) rfl (fun h9 => ?_) (fun h9 => ?_)
      · (try rw [nI_leI (by omega) (by omega)] at h9)
        omega
      · (try rw [nI_leI (by omega) (by omega)] at h9)
        refine z_aload_n 13 dX5_passFrom_12 rfl rfl ?_
        refine z_aload_n 14 dX5_passFrom_13 rfl rfl ?_
        refine z_iload_n 15 dX5_passFrom_14 rfl rfl ?_
        refine z_iload_n 16 dX5_passFrom_15 rfl rfl ?_
        refine z_cVI2 19 (tX5_stepBase hD' (by omega) n8 hs (show i < 8 by omega)) kX5_stepBase dX5_passFrom_16 rfl lX5_53 (by first | assumption | rfl) (Nat.le_of_ble_eq_true rfl) ?_
        rintro _ _ ⟨e1, e2⟩
        replace e1 := e1.symm
        replace e2 := e2.symm
        subst e1
        subst e2
        refine z_cVV1 22 (tX5_pass hW (by omega) (by omega) t2 hD'.2.1 ((hA i hil).fr hF (by intros; omega)) hv (hB i (by omega))) kX5_pass dX5_passFrom_19 rfl lX5_56 (by first | assumption | rfl) (Nat.le_of_ble_eq_true rfl) ?_
        rintro τ1 ⟨hF1, hO1⟩
        refine zs_iinc_2_3_1 25 rfl dX5_passFrom_22 rfl rfl ?_
        rw [nI_add]
        refine z_goto 2 dX5_passFrom_25 rfl ?_
        exact ih (i + 1) (by omega) (by omega) τ1 (hF.tr hF1 (fun _ _ h => h) (fun _ _ h => h)) hO1
  refine z_iconst 1 (v := nI 0) dX5_passFrom_0 rfl rfl ?_
  refine zs_istore_n_2_3 2 rfl dX5_passFrom_1 rfl rfl ?_
  exact loop 0 (Nat.zero_le _) σ Fr.rf hO
set_option maxRecDepth 20000 in
theorem tX5_reach {E : zE} {d : Nat} {σ : zM} {S : sS} {n s w v : Nat} {t : Nat → Nat} (hW : WF S) (hT : TbOK S n t) (hD : RdT σ n (sBw S 0) t) (hs : s < 8) (hA : Adj S σ n s t) (hw : w < sBw S 0) (hv : v < sBw S 0) : Ret E mX5_reach (d + 1) [zr E 13, .int (nI s), .int (nI w), .int (nI v)] σ (qJ fun x τ => x = lN (odN S t n s (eW w) (n / 2) v) ∧ Fr fOd σ τ) := by
  have h8 := hW.2.1.1
  have hb8 := bw_le hW (show 0 < 2 by omega)
  have n2 := hT.1.1
  have n8 := hT.1.2.1
  have hl1 : n / 2 = n / 2 - 1 + 1 := by omega
  have hob : ∀ k, k ≤ n / 2 → ∀ x, x < sBw S 0 → odN S t n s (eW w) k x < 2 ^ 63 := fun k hk x hx => by
    have a1 := odN_le hW hT s hw k hx
    have a2 := p24 (show k ≤ 4 by omega)
    omega
  have t1 := (hT.2 _ (Nat.mod_lt (s + 2 * (n / 2 - 1)) (show n > 0 by omega))).1
  have t2 := (hT.2 _ (Nat.mod_lt (s + 2 * (n / 2 - 1) + 1) (show n > 0 by omega))).1
  refine Ret.of [some (zr E 13), some (.int (nI s)), some (.int (nI w)), some (.int (nI v)), none, none, none, none, none] (by decide +kernel) (Nat.le_of_ble_eq_true rfl) rfl ?_
  have last : ∀ i, i ≤ sBw S 0 → ∀ τ, Fr fOd σ τ → OdX τ (sBw S 0) (odN S t n s (eW w) (n / 2 - 1)) → At E mX5_reach (d + 1) (qJ fun x τ => x = lN (odN S t n s (eW w) (n / 2) v) ∧ Fr fOd σ τ) 57 [some (zr E 13), some (.int (nI s)), some (.int (nI w)), some (.int (nI v)), some (.int (nI (n / 2 - 1))), some (.int (nI ((t ((s + 2 * (n / 2 - 1)) % n) * 8 + t ((s + 2 * (n / 2 - 1) + 1) % n)) * 64))), some (.long (lN (nxP S (t ((s + 2 * (n / 2 - 1)) % n)) (t ((s + 2 * (n / 2 - 1) + 1) % n)) (odN S t n s (eW w) (n / 2 - 1)) i v))), none, some (.int (nI i))] [] τ := by
    refine z_up (fun i hi ih τ hF hO => ?_)
    have hr' : gi τ 13 6 = nI (sBw S 0) := (hF.gi (by omega)).trans hD.2.1
    by_cases hie : i = sBw S 0
    · rw [hie]
      refine z_iload 59 dX5_reach_57 rfl rfl ?_
      refine z_aload_n 60 dX5_reach_59 rfl rfl ?_
      refine gX5_34 63 rfl dX5_reach_60 rfl (by first | assumption | rfl) ?_
      rw [hr']
      refine z_icmp_ge 101 66 dX5_reach_63 (by decide) rfl (fun h63 => ?_) (fun h63 => ?_)
      · (try rw [nI_leI (by omega) (by omega)] at h63)
        refine z_lload 103 dX5_reach_101 rfl rfl ?_
        refine z_rl dX5_reach_103 rfl ?_
        exact ⟨by rw [hl1]; rfl, hF⟩
      · (try rw [nI_leI (by omega) (by omega)] at h63)
        omega
    · have hil : i < sBw S 0 := by omega
      have hst := stp_le hW t2 (t ((s + 2 * (n / 2 - 1)) % n)) i hv
      have hSj := (hF.gi (by omega)).trans (hA (n / 2 - 1) (by omega) i hil v hv)
      refine z_iload 59 dX5_reach_57 rfl rfl ?_
      refine z_aload_n 60 dX5_reach_59 rfl rfl ?_
      refine gX5_34 63 rfl dX5_reach_60 rfl (by first | assumption | rfl) ?_
      rw [hr']
      refine z_icmp_ge 101 66 dX5_reach_63 (by decide) rfl (fun h63 => ?_) (fun h63 => ?_)
      · (try rw [nI_leI (by omega) (by omega)] at h63)
        omega
      · (try rw [nI_leI (by omega) (by omega)] at h63)
        refine z_lload 68 dX5_reach_66 rfl rfl ?_
        refine z_aload_n 69 dX5_reach_68 rfl rfl ?_
        refine gX5_21 72 rfl dX5_reach_69 rfl (by first | assumption | rfl) ?_
        refine z_iload 74 dX5_reach_72 rfl rfl ?_
        refine z_laldn 75 dX5_reach_74 rfl (by first | assumption | rfl) (by omega) ?_
        rw [hO i hil]
        refine z_aload_n 76 dX5_reach_75 rfl rfl ?_
        refine gX5_9 79 rfl dX5_reach_76 rfl (by first | assumption | rfl) ?_
        refine z_iload 81 dX5_reach_79 rfl rfl ?_
        refine z_iload 83 dX5_reach_81 rfl rfl ?_
        refine z_bipush 85 (v := nI 8) dX5_reach_83 rfl rfl ?_
        refine z_imul 86 dX5_reach_85 rfl ?_
        rw [nI_mul]
        refine z_iadd 87 dX5_reach_86 rfl ?_
        rw [nI_add]
        refine z_iload_n 88 dX5_reach_87 rfl rfl ?_
        refine z_iadd 89 dX5_reach_88 rfl ?_
        rw [nI_add]
        refine z_ialdn 90 dX5_reach_89 rfl (by first | assumption | rfl) (by omega) ?_
        rw [hSj]
        refine z_i2l 91 dX5_reach_90 rfl ?_
        rw [nI_l (by omega)]
        refine z_lmul 92 dX5_reach_91 rfl ?_
        rw [lN_mul]
        refine z_ladd 93 dX5_reach_92 rfl ?_
        rw [lN_add]
        refine zs_lstore_6_9 95 rfl dX5_reach_93 rfl rfl ?_
        refine zs_iinc_8_9_1 98 rfl dX5_reach_95 rfl rfl ?_
        rw [nI_add]
        refine z_goto 57 dX5_reach_98 rfl ?_
        exact ih (i + 1) (by omega) (by omega) τ hF hO
  have loop : ∀ i, i ≤ n / 2 - 1 → ∀ τ, Fr fOd σ τ → OdX τ (sBw S 0) (odN S t n s (eW w) i) → At E mX5_reach (d + 1) (qJ fun x τ => x = lN (odN S t n s (eW w) (n / 2) v) ∧ Fr fOd σ τ) 18 [some (zr E 13), some (.int (nI s)), some (.int (nI w)), some (.int (nI v)), some (.int (nI (n / 2 - 1))), some (.int (nI i)), none, none, none] [] τ := by
    refine z_up (fun i hi ih τ hF hO => ?_)
    have hD' := hD.fr hF (by omega) (by omega) (by intros; omega)
    by_cases hie : i = n / 2 - 1
    · rw [hie] at hO ⊢
      refine z_iload 20 dX5_reach_18 rfl rfl ?_
      refine z_iload 22 dX5_reach_20 rfl rfl ?_
      refine z_icmp_ge 42 25 dX5_reach_22 (by decide) rfl (fun h22 => ?_) (fun h22 => ?_)
      · (try rw [nI_leI (by omega) (by omega)] at h22)
        refine z_aload_n 43 dX5_reach_42 rfl rfl ?_
        refine z_iload_n 44 dX5_reach_43 rfl rfl ?_
        refine z_iload 46 dX5_reach_44 rfl rfl ?_
        refine z_cVI2 49 (tX5_stepBase hD' (by omega) n8 hs (show n / 2 - 1 < 8 by omega)) kX5_stepBase dX5_reach_46 rfl lX5_53 (by first | assumption | rfl) (Nat.le_of_ble_eq_true rfl) ?_
        rintro _ _ ⟨e1, e2⟩
        replace e1 := e1.symm
        replace e2 := e2.symm
        subst e1
        subst e2
        refine zs_istore_5_9 51 rfl dX5_reach_49 rfl rfl ?_
        refine z_lconst 52 (v := 0) dX5_reach_51 rfl rfl ?_
        refine zs_lstore_6_9 54 rfl dX5_reach_52 rfl rfl ?_
        refine z_iconst 55 (v := nI 0) dX5_reach_54 rfl rfl ?_
        refine zs_istore_8_9 57 rfl dX5_reach_55 rfl rfl ?_
        exact last 0 (Nat.zero_le _) τ hF hO
      · (try rw [nI_leI (by omega) (by omega)] at h22)
        omega
    · have hil : i < n / 2 := by omega
      have u1 := (hT.2 _ (Nat.mod_lt (s + 2 * i) (show n > 0 by omega))).1
      have u2 := (hT.2 _ (Nat.mod_lt (s + 2 * i + 1) (show n > 0 by omega))).1
      refine z_iload 20 dX5_reach_18 rfl rfl ?_
      refine z_iload 22 dX5_reach_20 rfl rfl ?_
      refine z_icmp_ge 42 25 dX5_reach_22 (by decide) rfl (fun h22 => ?_) (fun h22 => ?_)
      · (try rw [nI_leI (by omega) (by omega)] at h22)
        omega
      · (try rw [nI_leI (by omega) (by omega)] at h22)
        refine z_aload_n 26 dX5_reach_25 rfl rfl ?_
        refine z_aload_n 27 dX5_reach_26 rfl rfl ?_
        refine z_iload_n 28 dX5_reach_27 rfl rfl ?_
        refine z_iload 30 dX5_reach_28 rfl rfl ?_
        refine z_cVI2 33 (tX5_stepBase hD' (by omega) n8 hs (show i < 8 by omega)) kX5_stepBase dX5_reach_30 rfl lX5_53 (by first | assumption | rfl) (Nat.le_of_ble_eq_true rfl) ?_
        rintro _ _ ⟨e1, e2⟩
        replace e1 := e1.symm
        replace e2 := e2.symm
        subst e1
        subst e2
        refine z_cVV1 36 (tX5_pass hW (by omega) (by omega) u2 hD'.2.1 ((hA i hil).fr hF (by intros; omega)) hO (hob i (by omega))) kX5_pass dX5_reach_33 rfl lX5_56 (by first | assumption | rfl) (Nat.le_of_ble_eq_true rfl) ?_
        rintro τ1 ⟨hF1, hO1⟩
        refine zs_iinc_5_9_1 39 rfl dX5_reach_36 rfl rfl ?_
        rw [nI_add]
        refine z_goto 18 dX5_reach_39 rfl ?_
        exact ih (i + 1) (by omega) (by omega) τ1 (hF.tr hF1 (fun _ _ h => h) (fun _ _ h => h)) hO1
  refine z_aload_n 1 dX5_reach_0 rfl rfl ?_
  refine z_iload_n 2 dX5_reach_1 rfl rfl ?_
  refine z_cVV1 5 (tX5_begin hD.2.1 hb8 hw) kX5_begin dX5_reach_2 rfl lX5_60 (by first | assumption | rfl) (Nat.le_of_ble_eq_true rfl) ?_
  rintro τ1 ⟨hF1, hO1⟩
  refine z_aload_n 6 dX5_reach_5 rfl rfl ?_
  refine gX5_43 9 rfl dX5_reach_6 rfl (by first | assumption | rfl) ?_
  rw [hF1.gi (by omega), hD.1]
  refine z_iconst 10 (v := nI 2) dX5_reach_9 rfl rfl ?_
  refine z_idiv 11 dX5_reach_10 rfl (by decide) ?_
  rw [pk_div (by omega) (by decide) (by decide)]
  refine z_iconst 12 (v := nI 1) dX5_reach_11 rfl rfl ?_
  refine z_isub 13 dX5_reach_12 rfl ?_
  rw [nI_sub (by omega)]
  refine zs_istore_4_9 15 rfl dX5_reach_13 rfl rfl ?_
  refine z_iconst 16 (v := nI 0) dX5_reach_15 rfl rfl ?_
  refine zs_istore_5_9 18 rfl dX5_reach_16 rfl rfl ?_
  exact loop 0 (Nat.zero_le _) τ1 (hF1.mono (by intros; omega)) hO1
