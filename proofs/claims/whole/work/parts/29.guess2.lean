/-! step of the landed code; draws, guess, step of the reference -/
def spStep (S : sS) (p q w r : Int32) : Int32 × sS := if ¬ inN p (sPc S) ∨ ¬ inN q (sPc S) ∨ p = q ∨ ¬ inN w (sBw S 0) ∨ ¬ inN r 6 then (-1, S) else (nI (hSh (gSS S (zx q) (dS S (zx p) (zx w)).length (fun i => (dS S (zx p) (zx w)).getD i 0) (some (zx p))) (sBw S 0) (fv S (zx q)) (zx w)), setR S (zx r) (shRow S (zx q) (dS S (zx p) (zx w)).length (fun i => (dS S (zx p) (zx w)).getD i 0) (some (zx p))))
set_option maxRecDepth 20000 in
theorem tX9_step {E : zE} {d : Nat} {σ : zM} {S : sS} {p q w r : Int32} (hW : WF S) (hX : RX S σ) : Ret E mX9_step (d + 3) [zr E 0, .int p, .int q, .int w, .int r] σ (qX σ (spStep S p q w r)) := by
  have h8 := hW.2.1.1
  have hb8 := bw_le hW (show 0 < 2 by omega)
  by_cases hA : ¬ inN p (sPc S) ∨ ¬ inN q (sPc S) ∨ p = q ∨ ¬ inN w (sBw S 0) ∨ ¬ inN r 6
  · refine Ret.of [some (zr E 0), some (.int p), some (.int q), some (.int w), some (.int r)] (by decide +kernel) (Nat.le_of_ble_eq_true rfl) rfl ?_
    refine z_aload_n 1 dX9_step_0 rfl rfl ?_
    refine z_iload_n 2 dX9_step_1 rfl rfl ?_
    refine z_cVI1 5 (tX9_isPl (by assumption) (by assumption)) kX9_isPlayer dX9_step_2 rfl lX9_176 (by first | assumption | rfl) (Nat.le_of_ble_eq_true rfl) ?_
    rintro _ _ ⟨e1, e2⟩
    replace e1 := e1.symm
    replace e2 := e2.symm
    subst e1
    subst e2
    refine z_ifb_eq 37 8 dX9_step_5 (by decide) rfl (fun h5 => ?_) (fun h5 => ?_)
    · refine z_iconst 38 (v := (-1)) dX9_step_37 rfl rfl ?_
      refine z_ri dX9_step_38 rfl ?_
      exact qx0 (if_pos hA) hX Fr.rf
    · refine z_aload_n 9 dX9_step_8 rfl rfl ?_
      refine z_iload_n 10 dX9_step_9 rfl rfl ?_
      refine z_cVI1 13 (tX9_isPl (by assumption) (by assumption)) kX9_isPlayer dX9_step_10 rfl lX9_176 (by first | assumption | rfl) (Nat.le_of_ble_eq_true rfl) ?_
      rintro _ _ ⟨e1, e2⟩
      replace e1 := e1.symm
      replace e2 := e2.symm
      subst e1
      subst e2
      refine z_ifb_eq 37 16 dX9_step_13 (by decide) rfl (fun h13 => ?_) (fun h13 => ?_)
      · refine z_iconst 38 (v := (-1)) dX9_step_37 rfl rfl ?_
        refine z_ri dX9_step_38 rfl ?_
        exact qx0 (if_pos hA) hX Fr.rf
      · refine z_iload_n 17 dX9_step_16 rfl rfl ?_
        refine z_iload_n 18 dX9_step_17 rfl rfl ?_
        refine z_icmp_eq 37 21 dX9_step_18 (by decide) rfl (fun h18 => ?_) (fun h18 => ?_)
        · refine z_iconst 38 (v := (-1)) dX9_step_37 rfl rfl ?_
          refine z_ri dX9_step_38 rfl ?_
          exact qx0 (if_pos hA) hX Fr.rf
        · refine z_aload_n 22 dX9_step_21 rfl rfl ?_
          refine z_iload_n 23 dX9_step_22 rfl rfl ?_
          refine z_cVI1 26 (tX9_isWord (by assumption) (by assumption)) kX9_isWord dX9_step_23 rfl lX9_165 (by first | assumption | rfl) (Nat.le_of_ble_eq_true rfl) ?_
          rintro _ _ ⟨e1, e2⟩
          replace e1 := e1.symm
          replace e2 := e2.symm
          subst e1
          subst e2
          refine z_ifb_eq 37 29 dX9_step_26 (by decide) rfl (fun h26 => ?_) (fun h26 => ?_)
          · refine z_iconst 38 (v := (-1)) dX9_step_37 rfl rfl ?_
            refine z_ri dX9_step_38 rfl ?_
            exact qx0 (if_pos hA) hX Fr.rf
          · refine z_iload 31 dX9_step_29 rfl rfl ?_
            refine z_cSI1 34 (tX9_isRow) kX9_isRow dX9_step_31 rfl lX9_83 (Nat.le_of_ble_eq_true rfl) ?_
            rintro _ _ ⟨e1, e2⟩
            replace e1 := e1.symm
            replace e2 := e2.symm
            subst e1
            subst e2
            refine z_ifb_ne 39 37 dX9_step_34 (by decide) rfl (fun h34 => ?_) (fun h34 => ?_)
            · exact absurd hA (fun z => z.elim (fun q => q h5) (fun z => z.elim (fun q => q h13) (fun z => z.elim h18 (fun z => z.elim (fun q => q h26) (fun q => q h34)))))
            · refine z_iconst 38 (v := (-1)) dX9_step_37 rfl rfl ?_
              refine z_ri dX9_step_38 rfl ?_
              exact qx0 (if_pos hA) hX Fr.rf
  have hA1 : inN p (sPc S) := Classical.byContradiction fun z => hA (Or.inl z)
  have hA2 : inN q (sPc S) := Classical.byContradiction fun z => hA (Or.inr (Or.inl z))
  have hA3 : ¬ p = q := fun z => hA (Or.inr (Or.inr (Or.inl z)))
  have hA4 : inN w (sBw S 0) := Classical.byContradiction fun z => hA (Or.inr (Or.inr (Or.inr (Or.inl z))))
  have hA5 : inN r 6 := Classical.byContradiction fun z => hA (Or.inr (Or.inr (Or.inr (Or.inr z))))
  have e0 : spStep S p q w r = _ := if_neg hA
  have hA1' := hA1
  have hA2' := hA2
  have hA4' := hA4
  have hA5' := hA5
  obtain ⟨p, hp, rfl⟩ := inN_of hA1
  obtain ⟨q, hq, rfl⟩ := inN_of hA2
  obtain ⟨w, hw, rfl⟩ := inN_of hA4
  obtain ⟨r, hr, rfl⟩ := inN_of hA5
  rw [zx_nI (by omega), zx_nI (by omega), zx_nI (by omega), zx_nI (by omega)] at e0
  have hk := kd_r hr
  have hk1 := kd_r1 hr
  have hc := kd_p (show p < 8 by omega)
  have hcq := kd_p (show q < 8 by omega)
  obtain ⟨o1, o2, o3, o4, o5⟩ := plOK hW hp
  obtain ⟨v1, v2, v3, v4, v5⟩ := plOK hW hq
  have hpt := dS_pts hW hp hw
  refine Ret.of [some (zr E 0), some (.int (nI p)), some (.int (nI q)), some (.int (nI w)), some (.int (nI r))] (by decide +kernel) (Nat.le_of_ble_eq_true rfl) rfl ?_
  refine z_aload_n 1 dX9_step_0 rfl rfl ?_
  refine z_iload_n 2 dX9_step_1 rfl rfl ?_
  refine z_cVI1 5 (tX9_isPl (by assumption) (by assumption)) kX9_isPlayer dX9_step_2 rfl lX9_176 (by first | assumption | rfl) (Nat.le_of_ble_eq_true rfl) ?_
  rintro _ _ ⟨e1, e2⟩
  replace e1 := e1.symm
  replace e2 := e2.symm
  subst e1
  subst e2
  refine z_ifb_eq 37 8 dX9_step_5 (by decide) rfl (fun h5 => ?_) (fun h5 => ?_)
  · exact absurd hA1' h5
  · refine z_aload_n 9 dX9_step_8 rfl rfl ?_
    refine z_iload_n 10 dX9_step_9 rfl rfl ?_
    refine z_cVI1 13 (tX9_isPl (by assumption) (by assumption)) kX9_isPlayer dX9_step_10 rfl lX9_176 (by first | assumption | rfl) (Nat.le_of_ble_eq_true rfl) ?_
    rintro _ _ ⟨e1, e2⟩
    replace e1 := e1.symm
    replace e2 := e2.symm
    subst e1
    subst e2
    refine z_ifb_eq 37 16 dX9_step_13 (by decide) rfl (fun h13 => ?_) (fun h13 => ?_)
    · exact absurd hA2' h13
    · refine z_iload_n 17 dX9_step_16 rfl rfl ?_
      refine z_iload_n 18 dX9_step_17 rfl rfl ?_
      refine z_icmp_eq 37 21 dX9_step_18 (by decide) rfl (fun h18 => ?_) (fun h18 => ?_)
      · exact absurd h18 hA3
      · refine z_aload_n 22 dX9_step_21 rfl rfl ?_
        refine z_iload_n 23 dX9_step_22 rfl rfl ?_
        refine z_cVI1 26 (tX9_isWord (by assumption) (by assumption)) kX9_isWord dX9_step_23 rfl lX9_165 (by first | assumption | rfl) (Nat.le_of_ble_eq_true rfl) ?_
        rintro _ _ ⟨e1, e2⟩
        replace e1 := e1.symm
        replace e2 := e2.symm
        subst e1
        subst e2
        refine z_ifb_eq 37 29 dX9_step_26 (by decide) rfl (fun h26 => ?_) (fun h26 => ?_)
        · exact absurd hA4' h26
        · refine z_iload 31 dX9_step_29 rfl rfl ?_
          refine z_cSI1 34 (tX9_isRow) kX9_isRow dX9_step_31 rfl lX9_83 (Nat.le_of_ble_eq_true rfl) ?_
          rintro _ _ ⟨e1, e2⟩
          replace e1 := e1.symm
          replace e2 := e2.symm
          subst e1
          subst e2
          refine z_ifb_ne 39 37 dX9_step_34 (by decide) rfl (fun h34 => ?_) (fun h34 => ?_)
          · refine z_aload_n 40 dX9_step_39 rfl rfl ?_
            refine gX9_46 43 rfl dX9_step_40 rfl ?_
            refine z_aload_n 44 dX9_step_43 rfl rfl ?_
            refine gX9_26 47 rfl dX9_step_44 rfl ?_
            refine z_iload_n 48 dX9_step_47 rfl rfl ?_
            refine z_aald4 49 dX9_step_48 rfl (by omega) ?_
            refine z_iload_n 50 dX9_step_49 rfl rfl ?_
            refine z_cVV2 53 (tX2_drawBy (a := 8) (b := 44 + 2 * (sPl S p).2.1) (bw := sBw S 0) (w := w) (u := sUs S (sPl S p).2.1) rfl rfl hc (kd_b o2) (kd_b1 o2) (hX.py hp) o1 o3 o4 (hX.bxp hW hp) (by rw [uz_eq hw]; exact usLe hW hp hw) (by omega)) kX2_drawBy dX9_step_50 rfl lX9_185 (by first | assumption | rfl) (Nat.le_of_ble_eq_true rfl) ?_
            rintro τ1 ⟨hF1, hD1⟩
            rw [uz_eq hw] at hD1
            have hD1 : Dr τ1 8 (dS S p w) := hD1
            have hX1 : RX S τ1 := hX.scr hW (hF1.mono (by unfold xS; intros; omega))
            refine z_aload_n 54 dX9_step_53 rfl rfl ?_
            refine gX9_53 57 rfl dX9_step_54 rfl ?_
            refine z_aload_n 58 dX9_step_57 rfl rfl ?_
            refine gX9_26 61 rfl dX9_step_58 rfl ?_
            refine z_iload_n 62 dX9_step_61 rfl rfl ?_
            refine z_aald4 63 dX9_step_62 rfl (by omega) ?_
            refine z_aload_n 64 dX9_step_63 rfl rfl ?_
            refine gX9_46 67 rfl dX9_step_64 rfl ?_
            refine z_aload_n 68 dX9_step_67 rfl rfl ?_
            refine gX9_26 71 rfl dX9_step_68 rfl ?_
            refine z_iload_n 72 dX9_step_71 rfl rfl ?_
            refine z_aald4 73 dX9_step_72 rfl (by omega) ?_
            refine z_cVV3 76 (tX6_reckon (a := 8) (b := 44 + 2 * (sPl S q).2.1) (bw := sBw S 0) (n := (dS S p w).length) (u := sUs S (sPl S q).2.1) (g := fun i => (dS S p w).getD i 0) rfl rfl hcq (kd_b v2) (kd_b1 v2) (hX1.py hq) v1 v5 (hX1.bxp hW hq) (fun w hw => usLe hW hq hw) hD1 hpt (hX1.by hW hp)) kX6_reckon dX9_step_73 rfl lX9_225 (by first | assumption | rfl) (Nat.le_of_ble_eq_true rfl) ?_
            rintro τ2 ⟨hF2, hS2⟩
            have hX2 : RX S τ2 := hX1.scr hW (hF2.mono (by unfold xS; intros; omega))
            refine z_aload_n 77 dX9_step_76 rfl rfl ?_
            refine gX9_11 80 rfl dX9_step_77 rfl ?_
            refine z_iload 82 dX9_step_80 rfl rfl ?_
            refine z_aald1 83 dX9_step_82 rfl (by omega) ?_
            refine z_aload_n 84 dX9_step_83 rfl rfl ?_
            refine gX9_53 87 rfl dX9_step_84 rfl ?_
            refine gX9_229 90 rfl dX9_step_87 rfl (by first | assumption | rfl) ?_
            refine z_aload_n 91 dX9_step_90 rfl rfl ?_
            refine gX9_53 94 rfl dX9_step_91 rfl ?_
            refine gX9_232 97 rfl dX9_step_94 rfl (by first | assumption | rfl) ?_
            rw [hS2.1]
            refine z_cVV2 100 (tX7_take (b := 10 + 2) (cb := 8) hk hk1 rfl (by omega) (by omega)) kX7_take dX9_step_97 rfl lX9_209 (by first | assumption | rfl) (Nat.le_of_ble_eq_true rfl) ?_
            rintro τ3 ⟨hF3, hS3⟩
            refine z_aload_n 101 dX9_step_100 rfl rfl ?_
            refine gX9_53 104 rfl dX9_step_101 rfl ?_
            refine z_iload_n 105 dX9_step_104 rfl rfl ?_
            refine z_cVI1 108 (tX6_get hb8 ((hF3.gi (by omega)).trans hS2.1) hw) kX6_get dX9_step_105 rfl lX9_197 (by first | assumption | rfl) (Nat.le_of_ble_eq_true rfl) ?_
            rintro _ _ ⟨e1, e2⟩
            replace e1 := e1.symm
            replace e2 := e2.symm
            subst e1
            subst e2
            rw [hF3.gi (by omega), hS2.2.2 w hw]
            refine z_ri dX9_step_108 rfl ?_
            exact qx0 e0 (hX2.R hW hF3 hr (hS3.cong hS2.2.2)) ((hF1.tr hF2 (R := xAll) (by intros; omega) (by intros; omega)).tr hF3 (fun _ _ h => h) (by intros; omega))
          · exact absurd hA5' h34
theorem mSh.cong {σ : zM} {c b r cap k : Nat} {f f' : Nat → Int32} (h : mSh σ c b r cap (some (k, f))) (hf : ∀ i, i < k → f i = f' i) : mSh σ c b r cap (some (k, f')) := ⟨h.1, h.2.1, fun i hi => (h.2.2 i hi).trans (hf i hi)⟩
set_option maxRecDepth 20000 in
theorem tX10_rowOf {E : zE} {d : Nat} {σ : zM} {r n : Nat} {g : Nat → Int32} (hr : r < 6) (hn : n ≤ 6) (hg : ∀ i, i < n → gi σ 112 i = g i) : Ret E mX10_rowOf (d + 3) [zr E 102, .int (nI r), .int (nI n)] σ (qI fun x τ => x = nI n ∧ Fr (fun x y => x = 104 ∧ y = r ∨ x = 105 ∧ 40 * r ≤ y ∧ y < 40 * r + 40) σ τ ∧ mSh τ 104 105 r 40 (some (n, g))) := by
  refine Ret.of [some (zr E 102), some (.int (nI r)), some (.int (nI n)), none] (by decide +kernel) (Nat.le_of_ble_eq_true rfl) rfl ?_
  have loop : ∀ i, i ≤ n → ∀ τ, Fr (fun x y => x = 104 ∧ y = r ∨ x = 105 ∧ 40 * r ≤ y ∧ y < 40 * r + 40) σ τ → gi τ 104 r = nI n → (∀ k, k < i → gi τ 105 (40 * r + k) = g k) → At E mX10_rowOf (d + 3) (qI fun x τ => x = nI n ∧ Fr (fun x y => x = 104 ∧ y = r ∨ x = 105 ∧ 40 * r ≤ y ∧ y < 40 * r + 40) σ τ ∧ mSh τ 104 105 r 40 (some (n, g))) 9 [some (zr E 102), some (.int (nI r)), some (.int (nI n)), some (.int (nI i))] [] τ := by
    refine z_up (fun i hi ih τ hF hs hv => ?_)
    by_cases hin : i = n
    · subst hin
      refine z_iload_n 10 dX10_rowOf_9 rfl rfl ?_
      refine z_iload_n 11 dX10_rowOf_10 rfl rfl ?_
      refine z_icmp_ge 32 14 dX10_rowOf_11 (by decide) rfl (fun h11 => ?_) (fun h11 => ?_)
      · (try rw [nI_leI (by omega) (by omega)] at h11)
        refine z_iload_n 33 dX10_rowOf_32 rfl rfl ?_
        refine z_ri dX10_rowOf_33 rfl ?_
        exact ⟨rfl, hF, by omega, hs, hv⟩
      · (try rw [nI_leI (by omega) (by omega)] at h11)
        omega
    · have hil : i < n := by omega
      refine z_iload_n 10 dX10_rowOf_9 rfl rfl ?_
      refine z_iload_n 11 dX10_rowOf_10 rfl rfl ?_
      refine z_icmp_ge 32 14 dX10_rowOf_11 (by decide) rfl (fun h11 => ?_) (fun h11 => ?_)
      · (try rw [nI_leI (by omega) (by omega)] at h11)
        omega
      · (try rw [nI_leI (by omega) (by omega)] at h11)
        refine z_aload_n 15 dX10_rowOf_14 rfl rfl ?_
        refine z_iload_n 16 dX10_rowOf_15 rfl rfl ?_
        refine z_iload_n 17 dX10_rowOf_16 rfl rfl ?_
        refine z_aload_n 18 dX10_rowOf_17 rfl rfl ?_
        refine gX10_41 21 rfl dX10_rowOf_18 rfl ?_
        refine z_iload_n 22 dX10_rowOf_21 rfl rfl ?_
        refine z_ialdn 23 dX10_rowOf_22 rfl (by first | assumption | rfl) (by omega) ?_
        rw [hF.gi (by omega), hg i hil]
        refine z_cVV3 26 (tX10_setRow (by omega) (by omega)) kX10_setRow dX10_rowOf_23 rfl lX10_106 (by first | assumption | rfl) (Nat.le_of_ble_eq_true rfl) ?_
        rintro _ e2
        replace e2 := e2.symm
        subst e2
        refine zs_iinc_3_4_1 29 rfl dX10_rowOf_26 rfl rfl ?_
        rw [nI_add]
        refine z_goto 9 dX10_rowOf_29 rfl ?_
        refine ih (i + 1) (by omega) (by omega) _ (hF.si _ (by omega)) ((gi_s2 _ _ (by omega)).trans hs) (fun k hk => ?_)
        rw [gi_si]
        by_cases hki : k = i
        · rw [if_pos ⟨rfl, by omega⟩, hki]
        · rw [if_neg (by omega)]; exact hv k (by omega)
  refine z_aload_n 1 dX10_rowOf_0 rfl rfl ?_
  refine z_iload_n 2 dX10_rowOf_1 rfl rfl ?_
  refine z_iload_n 3 dX10_rowOf_2 rfl rfl ?_
  refine z_cVI2 6 (tX10_row0 hr (by omega)) kX10_row dX10_rowOf_3 rfl lX10_206 (by first | assumption | rfl) (Nat.le_of_ble_eq_true rfl) ?_
  rintro _ τ1 ⟨e1, hF1, hS1⟩
  subst e1
  refine z_pop 7 dX10_rowOf_6 rfl rfl ?_
  refine z_iconst 8 (v := nI 0) dX10_rowOf_7 rfl rfl ?_
  refine zs_istore_n_3_4 9 rfl dX10_rowOf_8 rfl rfl ?_
  exact loop 0 (Nat.zero_le _) τ1 hF1 hS1.2.1 (fun k hk => absurd hk (Nat.not_lt_zero k))
set_option maxRecDepth 20000 in
theorem tX10_sharesRow {E : zE} {d : Nat} {σ : zM} {r n : Nat} {g : Nat → Int32} (hr : r < 6) (hn : n ≤ 8) (hW0 : gi σ 109 0 = nI n) (hg : ∀ i, i < n → gi σ 115 i = g i) : Ret E mX10_sharesRow (d + 3) [zr E 102, .int (nI r)] σ (qV fun τ => Fr (fun x y => x = 104 ∧ y = r ∨ x = 105 ∧ 40 * r ≤ y ∧ y < 40 * r + 40) σ τ ∧ mSh τ 104 105 r 40 (some (n, g))) := by
  refine Ret.of [some (zr E 102), some (.int (nI r)), none] (by decide +kernel) (Nat.le_of_ble_eq_true rfl) rfl ?_
  have loop : ∀ i, i ≤ n → ∀ τ, Fr (fun x y => x = 104 ∧ y = r ∨ x = 105 ∧ 40 * r ≤ y ∧ y < 40 * r + 40) σ τ → gi τ 104 r = nI n → (∀ k, k < i → gi τ 105 (40 * r + k) = g k) → At E mX10_sharesRow (d + 3) (qV fun τ => Fr (fun x y => x = 104 ∧ y = r ∨ x = 105 ∧ 40 * r ≤ y ∧ y < 40 * r + 40) σ τ ∧ mSh τ 104 105 r 40 (some (n, g))) 12 [some (zr E 102), some (.int (nI r)), some (.int (nI i))] [] τ := by
    refine z_up (fun i hi ih τ hF hs hv => ?_)
    have hWT : gi τ 109 0 = nI n := (hF.gi (by omega)).trans hW0
    by_cases hin : i = n
    · subst hin
      refine z_iload_n 13 dX10_sharesRow_12 rfl rfl ?_
      refine z_aload_n 14 dX10_sharesRow_13 rfl rfl ?_
      refine z_cVI0 17 (tX10_words0 hWT) kX10_words dX10_sharesRow_14 rfl lX10_144 (by first | assumption | rfl) (Nat.le_of_ble_eq_true rfl) ?_
      rintro _ _ ⟨e1, e2⟩
      replace e1 := e1.symm
      replace e2 := e2.symm
      subst e1
      subst e2
      refine z_icmp_ge 38 20 dX10_sharesRow_17 (by decide) rfl (fun h17 => ?_) (fun h17 => ?_)
      · (try rw [nI_leI (by omega) (by omega)] at h17)
        refine z_rv dX10_sharesRow_38 rfl ?_
        exact ⟨hF, by omega, hs, hv⟩
      · (try rw [nI_leI (by omega) (by omega)] at h17)
        omega
    · have hil : i < n := by omega
      refine z_iload_n 13 dX10_sharesRow_12 rfl rfl ?_
      refine z_aload_n 14 dX10_sharesRow_13 rfl rfl ?_
      refine z_cVI0 17 (tX10_words0 hWT) kX10_words dX10_sharesRow_14 rfl lX10_144 (by first | assumption | rfl) (Nat.le_of_ble_eq_true rfl) ?_
      rintro _ _ ⟨e1, e2⟩
      replace e1 := e1.symm
      replace e2 := e2.symm
      subst e1
      subst e2
      refine z_icmp_ge 38 20 dX10_sharesRow_17 (by decide) rfl (fun h17 => ?_) (fun h17 => ?_)
      · (try rw [nI_leI (by omega) (by omega)] at h17)
        omega
      · (try rw [nI_leI (by omega) (by omega)] at h17)
        refine z_aload_n 21 dX10_sharesRow_20 rfl rfl ?_
        refine z_iload_n 22 dX10_sharesRow_21 rfl rfl ?_
        refine z_iload_n 23 dX10_sharesRow_22 rfl rfl ?_
        refine z_aload_n 24 dX10_sharesRow_23 rfl rfl ?_
        refine gX10_50 27 rfl dX10_sharesRow_24 rfl ?_
        refine z_iload_n 28 dX10_sharesRow_27 rfl rfl ?_
        refine z_ialdn 29 dX10_sharesRow_28 rfl (by first | assumption | rfl) (by omega) ?_
        rw [hF.gi (by omega), hg i hil]
        refine z_cVV3 32 (tX10_setRow (by omega) (by omega)) kX10_setRow dX10_sharesRow_29 rfl lX10_106 (by first | assumption | rfl) (Nat.le_of_ble_eq_true rfl) ?_
        rintro _ e2
        replace e2 := e2.symm
        subst e2
        refine zs_iinc_2_3_1 35 rfl dX10_sharesRow_32 rfl rfl ?_
        rw [nI_add]
        refine z_goto 12 dX10_sharesRow_35 rfl ?_
        refine ih (i + 1) (by omega) (by omega) _ (hF.si _ (by omega)) ((gi_s2 _ _ (by omega)).trans hs) (fun k hk => ?_)
        rw [gi_si]
        by_cases hki : k = i
        · rw [if_pos ⟨rfl, by omega⟩, hki]
        · rw [if_neg (by omega)]; exact hv k (by omega)
  refine z_aload_n 1 dX10_sharesRow_0 rfl rfl ?_
  refine z_iload_n 2 dX10_sharesRow_1 rfl rfl ?_
  refine z_aload_n 3 dX10_sharesRow_2 rfl rfl ?_
  refine z_cVI0 6 (tX10_words0 hW0) kX10_words dX10_sharesRow_3 rfl lX10_144 (by first | assumption | rfl) (Nat.le_of_ble_eq_true rfl) ?_
  rintro _ _ ⟨e1, e2⟩
  replace e1 := e1.symm
  replace e2 := e2.symm
  subst e1
  subst e2
  refine z_cVI2 9 (tX10_row0 hr (by omega)) kX10_row dX10_sharesRow_6 rfl lX10_206 (by first | assumption | rfl) (Nat.le_of_ble_eq_true rfl) ?_
  rintro _ τ1 ⟨e1, hF1, hS1⟩
  subst e1
  refine z_pop 10 dX10_sharesRow_9 rfl rfl ?_
  refine z_iconst 11 (v := nI 0) dX10_sharesRow_10 rfl rfl ?_
  refine zs_istore_n_2_3 12 rfl dX10_sharesRow_11 rfl rfl ?_
  exact loop 0 (Nat.zero_le _) τ1 hF1 hS1.2.1 (fun k hk => absurd hk (Nat.not_lt_zero k))
theorem RM.w0 {S : sS} {σ : zM} (h : RM S σ) : gi σ 109 0 = nI (sBw S 0) := (h.2.2.1 0 (by omega)).1
set_option maxRecDepth 20000 in
theorem tX10_draws {E : zE} {d : Nat} {σ : zM} {S : sS} {p w r : Int32} (hW : WF S) (hX : RM S σ) : Ret E mX10_draws (d + 4) [zr E 102, .int p, .int w, .int r] σ (qM σ (spDraws S p w r)) := by
  have h8 := hW.2.1.1
  have hb8 := bw_le hW (show 0 < 2 by omega)
  by_cases hA : ¬ inN p (sPc S) ∨ ¬ inN w (sBw S 0) ∨ ¬ inN r 6
  · refine Ret.of [some (zr E 102), some (.int p), some (.int w), some (.int r)] (by decide +kernel) (Nat.le_of_ble_eq_true rfl) rfl ?_
    refine z_aload_n 1 dX10_draws_0 rfl rfl ?_
    refine z_iload_n 2 dX10_draws_1 rfl rfl ?_
    refine z_cVI1 5 (tX10_isPlayer (by assumption) (by assumption)) kX10_isPlayer dX10_draws_2 rfl lX10_162 (by first | assumption | rfl) (Nat.le_of_ble_eq_true rfl) ?_
    rintro _ _ ⟨e1, e2⟩
    replace e1 := e1.symm
    replace e2 := e2.symm
    subst e1
    subst e2
    refine z_ifb_eq 23 8 dX10_draws_5 (by decide) rfl (fun h5 => ?_) (fun h5 => ?_)
    · refine z_iconst 24 (v := (-1)) dX10_draws_23 rfl rfl ?_
      refine z_ri dX10_draws_24 rfl ?_
      exact qm0 (if_pos hA) hX Fr.rf
    · refine z_aload_n 9 dX10_draws_8 rfl rfl ?_
      refine z_iload_n 10 dX10_draws_9 rfl rfl ?_
      refine z_cVI1 13 (tX10_isWord (by assumption) (by assumption)) kX10_isWord dX10_draws_10 rfl lX10_151 (by first | assumption | rfl) (Nat.le_of_ble_eq_true rfl) ?_
      rintro _ _ ⟨e1, e2⟩
      replace e1 := e1.symm
      replace e2 := e2.symm
      subst e1
      subst e2
      refine z_ifb_eq 23 16 dX10_draws_13 (by decide) rfl (fun h13 => ?_) (fun h13 => ?_)
      · refine z_iconst 24 (v := (-1)) dX10_draws_23 rfl rfl ?_
        refine z_ri dX10_draws_24 rfl ?_
        exact qm0 (if_pos hA) hX Fr.rf
      · refine z_iload_n 17 dX10_draws_16 rfl rfl ?_
        refine z_cSI1 20 (tX10_isRow) kX10_isRow dX10_draws_17 rfl lX10_95 (Nat.le_of_ble_eq_true rfl) ?_
        rintro _ _ ⟨e1, e2⟩
        replace e1 := e1.symm
        replace e2 := e2.symm
        subst e1
        subst e2
        refine z_ifb_ne 25 23 dX10_draws_20 (by decide) rfl (fun h20 => ?_) (fun h20 => ?_)
        · exact absurd hA (fun z => z.elim (fun q => q h5) (fun z => z.elim (fun q => q h13) (fun q => q h20)))
        · refine z_iconst 24 (v := (-1)) dX10_draws_23 rfl rfl ?_
          refine z_ri dX10_draws_24 rfl ?_
          exact qm0 (if_pos hA) hX Fr.rf
  have hA1 : inN p (sPc S) := Classical.byContradiction fun q => hA (Or.inl q)
  have hA2 : inN w (sBw S 0) := Classical.byContradiction fun q => hA (Or.inr (Or.inl q))
  have hA3 : inN r 6 := Classical.byContradiction fun q => hA (Or.inr (Or.inr q))
  have e0 : spDraws S p w r = _ := if_neg hA
  have hA1' := hA1
  have hA2' := hA2
  have hA3' := hA3
  obtain ⟨p, hp, rfl⟩ := inN_of hA1
  obtain ⟨w, hw, rfl⟩ := inN_of hA2
  obtain ⟨r, hr, rfl⟩ := inN_of hA3
  rw [zx_nI (by omega), zx_nI (by omega), zx_nI (by omega)] at e0
  obtain ⟨o1, o2, o3, o4, o5⟩ := plOK hW hp
  have hpt := dS_pts hW hp hw
  refine Ret.of [some (zr E 102), some (.int (nI p)), some (.int (nI w)), some (.int (nI r))] (by decide +kernel) (Nat.le_of_ble_eq_true rfl) rfl ?_
  refine z_aload_n 1 dX10_draws_0 rfl rfl ?_
  refine z_iload_n 2 dX10_draws_1 rfl rfl ?_
  refine z_cVI1 5 (tX10_isPlayer (by assumption) (by assumption)) kX10_isPlayer dX10_draws_2 rfl lX10_162 (by first | assumption | rfl) (Nat.le_of_ble_eq_true rfl) ?_
  rintro _ _ ⟨e1, e2⟩
  replace e1 := e1.symm
  replace e2 := e2.symm
  subst e1
  subst e2
  refine z_ifb_eq 23 8 dX10_draws_5 (by decide) rfl (fun h5 => ?_) (fun h5 => ?_)
  · exact absurd hA1' h5
  · refine z_aload_n 9 dX10_draws_8 rfl rfl ?_
    refine z_iload_n 10 dX10_draws_9 rfl rfl ?_
    refine z_cVI1 13 (tX10_isWord (by assumption) (by assumption)) kX10_isWord dX10_draws_10 rfl lX10_151 (by first | assumption | rfl) (Nat.le_of_ble_eq_true rfl) ?_
    rintro _ _ ⟨e1, e2⟩
    replace e1 := e1.symm
    replace e2 := e2.symm
    subst e1
    subst e2
    refine z_ifb_eq 23 16 dX10_draws_13 (by decide) rfl (fun h13 => ?_) (fun h13 => ?_)
    · exact absurd hA2' h13
    · refine z_iload_n 17 dX10_draws_16 rfl rfl ?_
      refine z_cSI1 20 (tX10_isRow) kX10_isRow dX10_draws_17 rfl lX10_95 (Nat.le_of_ble_eq_true rfl) ?_
      rintro _ _ ⟨e1, e2⟩
      replace e1 := e1.symm
      replace e2 := e2.symm
      subst e1
      subst e2
      refine z_ifb_ne 25 23 dX10_draws_20 (by decide) rfl (fun h20 => ?_) (fun h20 => ?_)
      · refine z_aload_n 26 dX10_draws_25 rfl rfl ?_
        refine z_iload_n 27 dX10_draws_26 rfl rfl ?_
        refine z_iload_n 28 dX10_draws_27 rfl rfl ?_
        refine z_cVV2 31 (tX10_setDrawing (show p < 9 by omega) (hX.py hp) o1 o2 o3 o4 (hX.bxp hW hp) hw (usLe hW hp hw)) kX10_setDrawing dX10_draws_28 rfl lX10_174 (by first | assumption | rfl) (Nat.le_of_ble_eq_true rfl) ?_
        rintro τ1 ⟨hF1, hD1⟩
        have hD1 : mDr τ1 16 112 (dS S p w) := hD1
        have hX1 : RM S τ1 := hX.scr hW (hF1.mono (by unfold mS; intros; omega))
        refine z_aload_n 32 dX10_draws_31 rfl rfl ?_
        refine z_iload_n 33 dX10_draws_32 rfl rfl ?_
        refine z_aload_n 34 dX10_draws_33 rfl rfl ?_
        refine gX10_171 37 rfl dX10_draws_34 rfl ?_
        rw [hD1.1]
        refine z_cVI2 40 (tX10_rowOf hr hpt.2.1 hD1.2) kX10_rowOf dX10_draws_37 rfl lX10_203 (by first | assumption | rfl) (Nat.le_of_ble_eq_true rfl) ?_
        rintro _ τ2 ⟨e1, hF2, hS2⟩
        subst e1
        refine z_ri dX10_draws_40 rfl ?_
        exact qm0 e0 (hX1.R hW hF2 hr hS2) (hF1.tr hF2 (by intros; omega) (by intros; omega))
      · exact absurd hA3' h20
set_option maxRecDepth 20000 in
theorem tX10_isBy {E : zE} {d : Nat} {σ : zM} {S : sS} {v : Int32} (hW : WF S) (hX : RM S σ) : Ret E mX10_isBy (d + 2) [zr E 102, .int v] σ (qI fun x τ => x = bI (decide (v = -9 ∨ inN v (sPc S))) ∧ τ = σ) := by
  refine Ret.of [some (zr E 102), some (.int v)] (by decide +kernel) (Nat.le_of_ble_eq_true rfl) rfl ?_
  refine z_iload_n 1 dX10_isBy_0 rfl rfl ?_
  refine z_bipush 3 (v := (-9)) dX10_isBy_1 rfl rfl ?_
  refine z_icmp_eq 14 6 dX10_isBy_3 (by decide) rfl (fun h3 => ?_) (fun h3 => ?_)
  · refine z_iconst 15 (v := nI 1) dX10_isBy_14 rfl rfl ?_
    refine z_goto 19 dX10_isBy_15 rfl ?_
    refine z_rz dX10_isBy_19 rfl (by first | exact Or.inl rfl | exact Or.inr rfl | exact bI_01 _ | assumption) ?_
    first | exact ⟨bI_t (Or.inl h3), rfl⟩ | exact ⟨bI_f (fun z => z.elim h3 h11), rfl⟩ | exact ⟨bI_t (Or.inr h11), rfl⟩
  · refine z_aload_n 7 dX10_isBy_6 rfl rfl ?_
    refine z_iload_n 8 dX10_isBy_7 rfl rfl ?_
    refine z_cVI1 11 (tX10_isPlayer (by assumption) (by assumption)) kX10_isPlayer dX10_isBy_8 rfl lX10_162 (by first | assumption | rfl) (Nat.le_of_ble_eq_true rfl) ?_
    rintro _ _ ⟨e1, e2⟩
    replace e1 := e1.symm
    replace e2 := e2.symm
    subst e1
    subst e2
    refine z_ifb_eq 18 14 dX10_isBy_11 (by decide) rfl (fun h11 => ?_) (fun h11 => ?_)
    · refine z_iconst 19 (v := nI 0) dX10_isBy_18 rfl rfl ?_
      refine z_rz dX10_isBy_19 rfl (by first | exact Or.inl rfl | exact Or.inr rfl | exact bI_01 _ | assumption) ?_
      first | exact ⟨bI_t (Or.inl h3), rfl⟩ | exact ⟨bI_f (fun z => z.elim h3 h11), rfl⟩ | exact ⟨bI_t (Or.inr h11), rfl⟩
    · refine z_iconst 15 (v := nI 1) dX10_isBy_14 rfl rfl ?_
      refine z_goto 19 dX10_isBy_15 rfl ?_
      refine z_rz dX10_isBy_19 rfl (by first | exact Or.inl rfl | exact Or.inr rfl | exact bI_01 _ | assumption) ?_
      first | exact ⟨bI_t (Or.inl h3), rfl⟩ | exact ⟨bI_f (fun z => z.elim h3 h11), rfl⟩ | exact ⟨bI_t (Or.inr h11), rfl⟩
set_option maxRecDepth 20000 in
theorem tX10_guess {E : zE} {d : Nat} {σ : zM} {S : sS} {p r v t : Int32} (hW : WF S) (hX : RM S σ) : Ret E mX10_guess (d + 6) [zr E 102, .int p, .int r, .int v, .int t] σ (qM σ (spGuess S p r v t)) := by
  have h8 := hW.2.1.1
  have hb8 := bw_le hW (show 0 < 2 by omega)
  by_cases hA : ¬ inN p (sPc S) ∨ ¬ inN r 6 ∨ ¬ (v = -9 ∨ inN v (sPc S)) ∨ ¬ inN t 6
  · refine Ret.of [some (zr E 102), some (.int p), some (.int r), some (.int v), some (.int t), none] (by decide +kernel) (Nat.le_of_ble_eq_true rfl) rfl ?_
    refine z_aload_n 1 dX10_guess_0 rfl rfl ?_
    refine z_iload_n 2 dX10_guess_1 rfl rfl ?_
    refine z_cVI1 5 (tX10_isPlayer (by assumption) (by assumption)) kX10_isPlayer dX10_guess_2 rfl lX10_162 (by first | assumption | rfl) (Nat.le_of_ble_eq_true rfl) ?_
    rintro _ _ ⟨e1, e2⟩
    replace e1 := e1.symm
    replace e2 := e2.symm
    subst e1
    subst e2
    refine z_ifb_eq 31 8 dX10_guess_5 (by decide) rfl (fun h5 => ?_) (fun h5 => ?_)
    · refine z_iconst 32 (v := (-1)) dX10_guess_31 rfl rfl ?_
      refine z_ri dX10_guess_32 rfl ?_
      exact qm0 (if_pos hA) hX Fr.rf
    · refine z_iload_n 9 dX10_guess_8 rfl rfl ?_
      refine z_cSI1 12 (tX10_isRow) kX10_isRow dX10_guess_9 rfl lX10_95 (Nat.le_of_ble_eq_true rfl) ?_
      rintro _ _ ⟨e1, e2⟩
      replace e1 := e1.symm
      replace e2 := e2.symm
      subst e1
      subst e2
      refine z_ifb_eq 31 15 dX10_guess_12 (by decide) rfl (fun h12 => ?_) (fun h12 => ?_)
      · refine z_iconst 32 (v := (-1)) dX10_guess_31 rfl rfl ?_
        refine z_ri dX10_guess_32 rfl ?_
        exact qm0 (if_pos hA) hX Fr.rf
      · refine z_aload_n 16 dX10_guess_15 rfl rfl ?_
        refine z_iload_n 17 dX10_guess_16 rfl rfl ?_
        refine z_cVI1 20 (tX10_isBy (by assumption) (by assumption)) kX10_isBy dX10_guess_17 rfl lX10_209 (by first | assumption | rfl) (Nat.le_of_ble_eq_true rfl) ?_
        rintro _ _ ⟨e1, e2⟩
        replace e1 := e1.symm
        replace e2 := e2.symm
        subst e1
        subst e2
        refine z_ifb_eq 31 23 dX10_guess_20 (by decide) rfl (fun h20 => ?_) (fun h20 => ?_)
        · refine z_iconst 32 (v := (-1)) dX10_guess_31 rfl rfl ?_
          refine z_ri dX10_guess_32 rfl ?_
          exact qm0 (if_pos hA) hX Fr.rf
        · refine z_iload 25 dX10_guess_23 rfl rfl ?_
          refine z_cSI1 28 (tX10_isRow) kX10_isRow dX10_guess_25 rfl lX10_95 (Nat.le_of_ble_eq_true rfl) ?_
          rintro _ _ ⟨e1, e2⟩
          replace e1 := e1.symm
          replace e2 := e2.symm
          subst e1
          subst e2
          refine z_ifb_ne 33 31 dX10_guess_28 (by decide) rfl (fun h28 => ?_) (fun h28 => ?_)
          · exact absurd hA (fun z => z.elim (fun q => q h5) (fun z => z.elim (fun q => q h12) (fun z => z.elim (fun q => q h20) (fun q => q h28))))
          · refine z_iconst 32 (v := (-1)) dX10_guess_31 rfl rfl ?_
            refine z_ri dX10_guess_32 rfl ?_
            exact qm0 (if_pos hA) hX Fr.rf
  have hA1 : inN p (sPc S) := Classical.byContradiction fun q => hA (Or.inl q)
  have hA2 : inN r 6 := Classical.byContradiction fun q => hA (Or.inr (Or.inl q))
  have hA3 : v = -9 ∨ inN v (sPc S) := Classical.byContradiction fun q => hA (Or.inr (Or.inr (Or.inl q)))
  have hA4 : inN t 6 := Classical.byContradiction fun q => hA (Or.inr (Or.inr (Or.inr q)))
  have e0 : spGuess S p r v t = _ := if_neg hA
  have hA1' := hA1
  have hA2' := hA2
  have hA4' := hA4
  obtain ⟨p, hp, rfl⟩ := inN_of hA1
  obtain ⟨r, hr, rfl⟩ := inN_of hA2
  obtain ⟨t, ht, rfl⟩ := inN_of hA4
  rw [zx_nI (by omega), zx_nI (by omega), zx_nI (by omega)] at e0
  have hS : mSh σ 104 105 r 40 (sR S r) := hX.1 r hr
  have hpl := sDf_lt (sR S r)
  by_cases hD : sDf (sR S r) = 0
  · rw [if_neg (fun z => z hD)] at e0
    obtain ⟨q, hq, hpt, hqg⟩ := sDf0 hD
    have hsz : sSz (sR S r) = q.1 := by rw [hq]; rfl
    rw [hsz] at e0
    have hS' : mSh σ 104 105 r 40 (some q) := by rw [← hq]; exact hS
    have hV : ∀ τ, RM S τ → mByV τ v (sBw S 0) (DB S (byO v)) := by
      intro τ hR
      rcases hA3 with rfl | hv
      · exact mByV.none
      · obtain ⟨v, hv2, rfl⟩ := inN_of hv
        have hne : byO (nI v) = some v := by
          unfold byO
          rw [if_neg (fun z => absurd (nI_pos' (show v < 2 ^ 31 by omega)) (by rw [z]; decide)), zx_nI (by omega)]
        rw [hne]
        exact hR.by hW hv2
    refine Ret.of [some (zr E 102), some (.int (nI p)), some (.int (nI r)), some (.int v), some (.int (nI t)), none] (by decide +kernel) (Nat.le_of_ble_eq_true rfl) rfl ?_
    refine z_aload_n 1 dX10_guess_0 rfl rfl ?_
    refine z_iload_n 2 dX10_guess_1 rfl rfl ?_
    refine z_cVI1 5 (tX10_isPlayer (by assumption) (by assumption)) kX10_isPlayer dX10_guess_2 rfl lX10_162 (by first | assumption | rfl) (Nat.le_of_ble_eq_true rfl) ?_
    rintro _ _ ⟨e1, e2⟩
    replace e1 := e1.symm
    replace e2 := e2.symm
    subst e1
    subst e2
    refine z_ifb_eq 31 8 dX10_guess_5 (by decide) rfl (fun h5 => ?_) (fun h5 => ?_)
    · exact absurd hA1' h5
    · refine z_iload_n 9 dX10_guess_8 rfl rfl ?_
      refine z_cSI1 12 (tX10_isRow) kX10_isRow dX10_guess_9 rfl lX10_95 (Nat.le_of_ble_eq_true rfl) ?_
      rintro _ _ ⟨e1, e2⟩
      replace e1 := e1.symm
      replace e2 := e2.symm
      subst e1
      subst e2
      refine z_ifb_eq 31 15 dX10_guess_12 (by decide) rfl (fun h12 => ?_) (fun h12 => ?_)
      · exact absurd hA2' h12
      · refine z_aload_n 16 dX10_guess_15 rfl rfl ?_
        refine z_iload_n 17 dX10_guess_16 rfl rfl ?_
        refine z_cVI1 20 (tX10_isBy (by assumption) (by assumption)) kX10_isBy dX10_guess_17 rfl lX10_209 (by first | assumption | rfl) (Nat.le_of_ble_eq_true rfl) ?_
        rintro _ _ ⟨e1, e2⟩
        replace e1 := e1.symm
        replace e2 := e2.symm
        subst e1
        subst e2
        refine z_ifb_eq 31 23 dX10_guess_20 (by decide) rfl (fun h20 => ?_) (fun h20 => ?_)
        · exact absurd hA3 h20
        · refine z_iload 25 dX10_guess_23 rfl rfl ?_
          refine z_cSI1 28 (tX10_isRow) kX10_isRow dX10_guess_25 rfl lX10_95 (Nat.le_of_ble_eq_true rfl) ?_
          rintro _ _ ⟨e1, e2⟩
          replace e1 := e1.symm
          replace e2 := e2.symm
          subst e1
          subst e2
          refine z_ifb_ne 33 31 dX10_guess_28 (by decide) rfl (fun h28 => ?_) (fun h28 => ?_)
          · refine z_aload_n 34 dX10_guess_33 rfl rfl ?_
            refine z_iload_n 35 dX10_guess_34 rfl rfl ?_
            refine z_cVI1 38 (tX10_askedDrawn hr hX) kX10_askedDrawn dX10_guess_35 rfl lX10_212 (by first | assumption | rfl) (Nat.le_of_ble_eq_true rfl) ?_
            rintro _ _ ⟨e1, e2⟩
            rw [if_pos hD] at e1 e2
            replace e1 := e1.symm
            replace e2 := e2.symm
            subst e1
            subst e2
            refine zs_istore_5_6 40 rfl dX10_guess_38 rfl rfl ?_
            refine z_iload 42 dX10_guess_40 rfl rfl ?_
            refine z_if_ge 48 45 dX10_guess_42 (by decide) rfl (fun h42 => ?_) (fun h42 => ?_)
            · refine z_aload_n 49 dX10_guess_48 rfl rfl ?_
              refine z_iload_n 50 dX10_guess_49 rfl rfl ?_
              refine z_aload_n 51 dX10_guess_50 rfl rfl ?_
              refine gX10_17 54 rfl dX10_guess_51 rfl ?_
              refine z_iload_n 55 dX10_guess_54 rfl rfl ?_
              refine z_ialdn 56 dX10_guess_55 rfl (by first | assumption | rfl) (by omega) ?_
              rw [hS'.2.1]
              refine z_cVV2 59 (tX10_seeRow (g := gOf (sR S r)) hr hS' (Nat.le_refl _) hpt.2.1 hqg) kX10_seeRow dX10_guess_56 rfl lX10_215 (by first | assumption | rfl) (Nat.le_of_ble_eq_true rfl) ?_
              rintro τ1 ⟨hF1, hD1⟩
              have hX1 : RM S τ1 := hX.scr hW (hF1.mono (by unfold mS; intros; omega))
              refine z_aload_n 60 dX10_guess_59 rfl rfl ?_
              refine z_iload_n 61 dX10_guess_60 rfl rfl ?_
              refine z_iload_n 62 dX10_guess_61 rfl rfl ?_
              refine z_cVV2 65 (tX10_setShares (bw := sBw S 0) (u := sUs S (sPl S p).2.1) (show p < 9 by omega) (hX1.py hp) (plOK hW hp) hX1.w0 (hX1.bxp hW hp) (fun w hw => usLe hW hp hw) hD1 hpt (hV τ1 hX1)) kX10_setShares dX10_guess_62 rfl lX10_193 (by first | assumption | rfl) (Nat.le_of_ble_eq_true rfl) ?_
              rintro τ2 ⟨hF2, hS2⟩
              have hX2 : RM S τ2 := hX1.scr hW (hF2.mono (by unfold mS; intros; omega))
              refine z_aload_n 66 dX10_guess_65 rfl rfl ?_
              refine z_iload 68 dX10_guess_66 rfl rfl ?_
              refine z_cVV1 71 (tX10_sharesRow ht hb8 hX2.w0 hS2) kX10_sharesRow dX10_guess_68 rfl lX10_218 (by first | assumption | rfl) (Nat.le_of_ble_eq_true rfl) ?_
              rintro τ3 ⟨hF3, hS3⟩
              have hX3 := hX2.R hW hF3 ht hS3
              refine z_aload_n 72 dX10_guess_71 rfl rfl ?_
              refine z_cVI0 75 (tX10_greatest (bw := sBw S 0) (fav := fv S p) (s := gSS S p q.1 (gOf (sR S r)) (byO v)) hb8 (plOK hW hp).2.2.2.2 ((hF3.gi (by omega)).trans hX2.w0) (fun w hw => (hF3.gi (by omega)).trans (hS2 w hw))) kX10_greatest dX10_guess_72 rfl lX10_200 (by first | assumption | rfl) (Nat.le_of_ble_eq_true rfl) ?_
              rintro _ _ ⟨e1, e2⟩
              replace e1 := e1.symm
              replace e2 := e2.symm
              subst e1
              subst e2
              refine z_ri dX10_guess_75 rfl ?_
              exact qm0 e0 hX3 ((hF1.tr hF2 (R := mAll) (by intros; omega) (by intros; omega)).tr hF3 (fun _ _ h => h) (by intros; omega))
            · exact absurd (nI_pos' (by decide)) h42
          · exact absurd hA4' h28
  · rw [if_pos hD] at e0
    refine Ret.of [some (zr E 102), some (.int (nI p)), some (.int (nI r)), some (.int v), some (.int (nI t)), none] (by decide +kernel) (Nat.le_of_ble_eq_true rfl) rfl ?_
    refine z_aload_n 1 dX10_guess_0 rfl rfl ?_
    refine z_iload_n 2 dX10_guess_1 rfl rfl ?_
    refine z_cVI1 5 (tX10_isPlayer (by assumption) (by assumption)) kX10_isPlayer dX10_guess_2 rfl lX10_162 (by first | assumption | rfl) (Nat.le_of_ble_eq_true rfl) ?_
    rintro _ _ ⟨e1, e2⟩
    replace e1 := e1.symm
    replace e2 := e2.symm
    subst e1
    subst e2
    refine z_ifb_eq 31 8 dX10_guess_5 (by decide) rfl (fun h5 => ?_) (fun h5 => ?_)
    · exact absurd hA1' h5
    · refine z_iload_n 9 dX10_guess_8 rfl rfl ?_
      refine z_cSI1 12 (tX10_isRow) kX10_isRow dX10_guess_9 rfl lX10_95 (Nat.le_of_ble_eq_true rfl) ?_
      rintro _ _ ⟨e1, e2⟩
      replace e1 := e1.symm
      replace e2 := e2.symm
      subst e1
      subst e2
      refine z_ifb_eq 31 15 dX10_guess_12 (by decide) rfl (fun h12 => ?_) (fun h12 => ?_)
      · exact absurd hA2' h12
      · refine z_aload_n 16 dX10_guess_15 rfl rfl ?_
        refine z_iload_n 17 dX10_guess_16 rfl rfl ?_
        refine z_cVI1 20 (tX10_isBy (by assumption) (by assumption)) kX10_isBy dX10_guess_17 rfl lX10_209 (by first | assumption | rfl) (Nat.le_of_ble_eq_true rfl) ?_
        rintro _ _ ⟨e1, e2⟩
        replace e1 := e1.symm
        replace e2 := e2.symm
        subst e1
        subst e2
        refine z_ifb_eq 31 23 dX10_guess_20 (by decide) rfl (fun h20 => ?_) (fun h20 => ?_)
        · exact absurd hA3 h20
        · refine z_iload 25 dX10_guess_23 rfl rfl ?_
          refine z_cSI1 28 (tX10_isRow) kX10_isRow dX10_guess_25 rfl lX10_95 (Nat.le_of_ble_eq_true rfl) ?_
          rintro _ _ ⟨e1, e2⟩
          replace e1 := e1.symm
          replace e2 := e2.symm
          subst e1
          subst e2
          refine z_ifb_ne 33 31 dX10_guess_28 (by decide) rfl (fun h28 => ?_) (fun h28 => ?_)
          · refine z_aload_n 34 dX10_guess_33 rfl rfl ?_
            refine z_iload_n 35 dX10_guess_34 rfl rfl ?_
            refine z_cVI1 38 (tX10_askedDrawn hr hX) kX10_askedDrawn dX10_guess_35 rfl lX10_212 (by first | assumption | rfl) (Nat.le_of_ble_eq_true rfl) ?_
            rintro _ _ ⟨e1, e2⟩
            rw [if_neg hD] at e1 e2
            replace e1 := e1.symm
            replace e2 := e2.symm
            subst e1
            subst e2
            refine zs_istore_5_6 40 rfl dX10_guess_38 rfl rfl ?_
            refine z_iload 42 dX10_guess_40 rfl rfl ?_
            refine z_if_ge 48 45 dX10_guess_42 (by decide) rfl (fun h42 => ?_) (fun h42 => ?_)
            · (try rw [nI_ge0 (by omega)] at h42)
              exact absurd h42 (by decide)
            · (try rw [nI_ge0 (by omega)] at h42)
              refine z_iload 47 dX10_guess_45 rfl rfl ?_
              refine z_ri dX10_guess_47 rfl ?_
              exact qmf hW e0 hpl hX Fr.rf
          · exact absurd hA4' h28
set_option maxRecDepth 20000 in
theorem tX10_setStep {E : zE} {d : Nat} {σ : zM} {S : sS} {p q w : Nat} (hW : WF S) (hX : RM S σ) (hp : p < sPc S) (hq : q < sPc S) (hw : w < sBw S 0) : Ret E mX10_setStep (d + 6) [zr E 102, .int (nI p), .int (nI q), .int (nI w)] σ (qV fun τ => Fr (fun a j => a = 102 ∧ (j = 16 ∨ j = 18) ∨ a = 112 ∨ a = 113 ∨ a = 114 ∨ a = 115) σ τ ∧ mShr τ (sBw S 0) (fv S q) (gSS S q (dS S p w).length (fun i => (dS S p w).getD i 0) (some p))) := by
  have h8 := hW.2.1.1
  refine Ret.of [some (zr E 102), some (.int (nI p)), some (.int (nI q)), some (.int (nI w))] (by decide +kernel) (Nat.le_of_ble_eq_true rfl) rfl ?_
  refine z_aload_n 1 dX10_setStep_0 rfl rfl ?_
  refine z_iload_n 2 dX10_setStep_1 rfl rfl ?_
  refine z_iload_n 3 dX10_setStep_2 rfl rfl ?_
  refine z_cVV2 6 (tX10_see (show p < 9 by omega) (hX.py hp) (plOK hW hp) (hX.bxp hW hp) hw (usLe hW hp hw)) kX10_see dX10_setStep_3 rfl lX10_190 (by first | assumption | rfl) (Nat.le_of_ble_eq_true rfl) ?_
  rintro τ1 ⟨hF1, hD1, hE1⟩
  have hX1 : RM S τ1 := hX.scr hW (hF1.mono (by unfold mS; intros; omega))
  refine z_aload_n 7 dX10_setStep_6 rfl rfl ?_
  refine z_iload_n 8 dX10_setStep_7 rfl rfl ?_
  refine z_iload_n 9 dX10_setStep_8 rfl rfl ?_
  refine z_cVV2 12 (tX10_setShares (bw := sBw S 0) (n := (dS S p w).length) (g := fun i => (dS S p w).getD i 0) (u := sUs S (sPl S q).2.1) (show q < 9 by omega) (hX1.py hq) (plOK hW hq) hX1.w0 (hX1.bxp hW hq) (fun w hw => usLe hW hq hw) hE1 (dS_pts hW hp hw) (hX1.by hW hp)) kX10_setShares dX10_setStep_9 rfl lX10_193 (by first | assumption | rfl) (Nat.le_of_ble_eq_true rfl) ?_
  rintro τ2 ⟨hF2, hS2⟩
  refine z_rv dX10_setStep_12 rfl ?_
  exact ⟨hF1.tr hF2 (by intros; omega) (by intros; omega), hS2⟩
set_option maxRecDepth 20000 in
theorem tX10_step {E : zE} {d : Nat} {σ : zM} {S : sS} {p q w r : Int32} (hW : WF S) (hX : RM S σ) : Ret E mX10_step (d + 7) [zr E 102, .int p, .int q, .int w, .int r] σ (qM σ (spStep S p q w r)) := by
  have h8 := hW.2.1.1
  have hb8 := bw_le hW (show 0 < 2 by omega)
  by_cases hA : ¬ inN p (sPc S) ∨ ¬ inN q (sPc S) ∨ p = q ∨ ¬ inN w (sBw S 0) ∨ ¬ inN r 6
  · refine Ret.of [some (zr E 102), some (.int p), some (.int q), some (.int w), some (.int r)] (by decide +kernel) (Nat.le_of_ble_eq_true rfl) rfl ?_
    refine z_aload_n 1 dX10_step_0 rfl rfl ?_
    refine z_iload_n 2 dX10_step_1 rfl rfl ?_
    refine z_cVI1 5 (tX10_isPlayer (by assumption) (by assumption)) kX10_isPlayer dX10_step_2 rfl lX10_162 (by first | assumption | rfl) (Nat.le_of_ble_eq_true rfl) ?_
    rintro _ _ ⟨e1, e2⟩
    replace e1 := e1.symm
    replace e2 := e2.symm
    subst e1
    subst e2
    refine z_ifb_eq 37 8 dX10_step_5 (by decide) rfl (fun h5 => ?_) (fun h5 => ?_)
    · refine z_iconst 38 (v := (-1)) dX10_step_37 rfl rfl ?_
      refine z_ri dX10_step_38 rfl ?_
      exact qm0 (if_pos hA) hX Fr.rf
    · refine z_aload_n 9 dX10_step_8 rfl rfl ?_
      refine z_iload_n 10 dX10_step_9 rfl rfl ?_
      refine z_cVI1 13 (tX10_isPlayer (by assumption) (by assumption)) kX10_isPlayer dX10_step_10 rfl lX10_162 (by first | assumption | rfl) (Nat.le_of_ble_eq_true rfl) ?_
      rintro _ _ ⟨e1, e2⟩
      replace e1 := e1.symm
      replace e2 := e2.symm
      subst e1
      subst e2
      refine z_ifb_eq 37 16 dX10_step_13 (by decide) rfl (fun h13 => ?_) (fun h13 => ?_)
      · refine z_iconst 38 (v := (-1)) dX10_step_37 rfl rfl ?_
        refine z_ri dX10_step_38 rfl ?_
        exact qm0 (if_pos hA) hX Fr.rf
      · refine z_iload_n 17 dX10_step_16 rfl rfl ?_
        refine z_iload_n 18 dX10_step_17 rfl rfl ?_
        refine z_icmp_eq 37 21 dX10_step_18 (by decide) rfl (fun h18 => ?_) (fun h18 => ?_)
        · refine z_iconst 38 (v := (-1)) dX10_step_37 rfl rfl ?_
          refine z_ri dX10_step_38 rfl ?_
          exact qm0 (if_pos hA) hX Fr.rf
        · refine z_aload_n 22 dX10_step_21 rfl rfl ?_
          refine z_iload_n 23 dX10_step_22 rfl rfl ?_
          refine z_cVI1 26 (tX10_isWord (by assumption) (by assumption)) kX10_isWord dX10_step_23 rfl lX10_151 (by first | assumption | rfl) (Nat.le_of_ble_eq_true rfl) ?_
          rintro _ _ ⟨e1, e2⟩
          replace e1 := e1.symm
          replace e2 := e2.symm
          subst e1
          subst e2
          refine z_ifb_eq 37 29 dX10_step_26 (by decide) rfl (fun h26 => ?_) (fun h26 => ?_)
          · refine z_iconst 38 (v := (-1)) dX10_step_37 rfl rfl ?_
            refine z_ri dX10_step_38 rfl ?_
            exact qm0 (if_pos hA) hX Fr.rf
          · refine z_iload 31 dX10_step_29 rfl rfl ?_
            refine z_cSI1 34 (tX10_isRow) kX10_isRow dX10_step_31 rfl lX10_95 (Nat.le_of_ble_eq_true rfl) ?_
            rintro _ _ ⟨e1, e2⟩
            replace e1 := e1.symm
            replace e2 := e2.symm
            subst e1
            subst e2
            refine z_ifb_ne 39 37 dX10_step_34 (by decide) rfl (fun h34 => ?_) (fun h34 => ?_)
            · exact absurd hA (fun z => z.elim (fun q => q h5) (fun z => z.elim (fun q => q h13) (fun z => z.elim h18 (fun z => z.elim (fun q => q h26) (fun q => q h34)))))
            · refine z_iconst 38 (v := (-1)) dX10_step_37 rfl rfl ?_
              refine z_ri dX10_step_38 rfl ?_
              exact qm0 (if_pos hA) hX Fr.rf
  have hA1 : inN p (sPc S) := Classical.byContradiction fun z => hA (Or.inl z)
  have hA2 : inN q (sPc S) := Classical.byContradiction fun z => hA (Or.inr (Or.inl z))
  have hA3 : ¬ p = q := fun z => hA (Or.inr (Or.inr (Or.inl z)))
  have hA4 : inN w (sBw S 0) := Classical.byContradiction fun z => hA (Or.inr (Or.inr (Or.inr (Or.inl z))))
  have hA5 : inN r 6 := Classical.byContradiction fun z => hA (Or.inr (Or.inr (Or.inr (Or.inr z))))
  have e0 : spStep S p q w r = _ := if_neg hA
  have hA1' := hA1
  have hA2' := hA2
  have hA4' := hA4
  have hA5' := hA5
  obtain ⟨p, hp, rfl⟩ := inN_of hA1
  obtain ⟨q, hq, rfl⟩ := inN_of hA2
  obtain ⟨w, hw, rfl⟩ := inN_of hA4
  obtain ⟨r, hr, rfl⟩ := inN_of hA5
  rw [zx_nI (by omega), zx_nI (by omega), zx_nI (by omega), zx_nI (by omega)] at e0
  refine Ret.of [some (zr E 102), some (.int (nI p)), some (.int (nI q)), some (.int (nI w)), some (.int (nI r))] (by decide +kernel) (Nat.le_of_ble_eq_true rfl) rfl ?_
  refine z_aload_n 1 dX10_step_0 rfl rfl ?_
  refine z_iload_n 2 dX10_step_1 rfl rfl ?_
  refine z_cVI1 5 (tX10_isPlayer (by assumption) (by assumption)) kX10_isPlayer dX10_step_2 rfl lX10_162 (by first | assumption | rfl) (Nat.le_of_ble_eq_true rfl) ?_
  rintro _ _ ⟨e1, e2⟩
  replace e1 := e1.symm
  replace e2 := e2.symm
  subst e1
  subst e2
  refine z_ifb_eq 37 8 dX10_step_5 (by decide) rfl (fun h5 => ?_) (fun h5 => ?_)
  · exact absurd hA1' h5
  · refine z_aload_n 9 dX10_step_8 rfl rfl ?_
    refine z_iload_n 10 dX10_step_9 rfl rfl ?_
    refine z_cVI1 13 (tX10_isPlayer (by assumption) (by assumption)) kX10_isPlayer dX10_step_10 rfl lX10_162 (by first | assumption | rfl) (Nat.le_of_ble_eq_true rfl) ?_
    rintro _ _ ⟨e1, e2⟩
    replace e1 := e1.symm
    replace e2 := e2.symm
    subst e1
    subst e2
    refine z_ifb_eq 37 16 dX10_step_13 (by decide) rfl (fun h13 => ?_) (fun h13 => ?_)
    · exact absurd hA2' h13
    · refine z_iload_n 17 dX10_step_16 rfl rfl ?_
      refine z_iload_n 18 dX10_step_17 rfl rfl ?_
      refine z_icmp_eq 37 21 dX10_step_18 (by decide) rfl (fun h18 => ?_) (fun h18 => ?_)
      · exact absurd h18 hA3
      · refine z_aload_n 22 dX10_step_21 rfl rfl ?_
        refine z_iload_n 23 dX10_step_22 rfl rfl ?_
        refine z_cVI1 26 (tX10_isWord (by assumption) (by assumption)) kX10_isWord dX10_step_23 rfl lX10_151 (by first | assumption | rfl) (Nat.le_of_ble_eq_true rfl) ?_
        rintro _ _ ⟨e1, e2⟩
        replace e1 := e1.symm
        replace e2 := e2.symm
        subst e1
        subst e2
        refine z_ifb_eq 37 29 dX10_step_26 (by decide) rfl (fun h26 => ?_) (fun h26 => ?_)
        · exact absurd hA4' h26
        · refine z_iload 31 dX10_step_29 rfl rfl ?_
          refine z_cSI1 34 (tX10_isRow) kX10_isRow dX10_step_31 rfl lX10_95 (Nat.le_of_ble_eq_true rfl) ?_
          rintro _ _ ⟨e1, e2⟩
          replace e1 := e1.symm
          replace e2 := e2.symm
          subst e1
          subst e2
          refine z_ifb_ne 39 37 dX10_step_34 (by decide) rfl (fun h34 => ?_) (fun h34 => ?_)
          · refine z_aload_n 40 dX10_step_39 rfl rfl ?_
            refine z_iload_n 41 dX10_step_40 rfl rfl ?_
            refine z_iload_n 42 dX10_step_41 rfl rfl ?_
            refine z_iload_n 43 dX10_step_42 rfl rfl ?_
            refine z_cVV3 46 (tX10_setStep hW hX hp hq hw) kX10_setStep dX10_step_43 rfl lX10_221 (by first | assumption | rfl) (Nat.le_of_ble_eq_true rfl) ?_
            rintro τ1 ⟨hF1, hS1⟩
            have hX1 : RM S τ1 := hX.scr hW (hF1.mono (by unfold mS; intros; omega))
            refine z_aload_n 47 dX10_step_46 rfl rfl ?_
            refine z_iload 49 dX10_step_47 rfl rfl ?_
            refine z_cVV1 52 (tX10_sharesRow hr hb8 hX1.w0 hS1) kX10_sharesRow dX10_step_49 rfl lX10_218 (by first | assumption | rfl) (Nat.le_of_ble_eq_true rfl) ?_
            rintro τ2 ⟨hF2, hS2⟩
            refine z_aload_n 53 dX10_step_52 rfl rfl ?_
            refine gX10_50 56 rfl dX10_step_53 rfl ?_
            refine z_iload_n 57 dX10_step_56 rfl rfl ?_
            refine z_ialdn 58 dX10_step_57 rfl (by first | assumption | rfl) (by omega) ?_
            rw [hF2.gi (by omega), hS1 w hw]
            refine z_ri dX10_step_58 rfl ?_
            exact qm0 e0 (hX1.R hW hF2 hr hS2) (hF1.tr hF2 (by intros; omega) (by intros; omega))
          · exact absurd hA5' h34
