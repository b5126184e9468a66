/-! image -/
def imgV (q : sPly) : Nat := 1000 * q.1 + 100 * q.2.1 + 10 * q.2.2.1 + q.2.2.2
def spImage (S : sS) (r : Int32) : Int32 × sS := if ¬ inN r 6 then (-1, S) else (nI (sPc S), setR S (zx r) (some (sPc S, fun p => nI (imgV (sPl S p)))))
set_option maxRecDepth 20000 in
theorem tX4_asNumber {E : zE} {d : Nat} {σ : zM} {a b : Nat} {q : sPly} (hk : (kd a).1 = 4) (hP : Py σ a q b) : Ret E mX4_asNumber d [zr E a] σ (qI fun x τ => x = nI (imgV q) ∧ τ = σ) := by
  obtain ⟨p1, p2, p3, p4, p5⟩ := hP
  refine Ret.of [some (zr E a)] (by decide +kernel) (Nat.le_of_ble_eq_true rfl) rfl ?_
  refine z_sipush 3 (v := nI 1000) dX4_asNumber_0 rfl rfl ?_
  refine z_aload_n 4 dX4_asNumber_3 rfl rfl ?_
  refine gX4_19 7 rfl dX4_asNumber_4 rfl (by first | assumption | rfl) ?_
  rw [p1]
  refine z_imul 8 dX4_asNumber_7 rfl ?_
  refine z_bipush 10 (v := nI 100) dX4_asNumber_8 rfl rfl ?_
  refine z_aload_n 11 dX4_asNumber_10 rfl rfl ?_
  refine gX4_23 14 rfl dX4_asNumber_11 rfl (by first | assumption | rfl) ?_
  rw [p2]
  refine z_imul 15 dX4_asNumber_14 rfl ?_
  rw [nI_mul, nI_mul]
  refine z_iadd 16 dX4_asNumber_15 rfl ?_
  refine z_bipush 18 (v := nI 10) dX4_asNumber_16 rfl rfl ?_
  refine z_aload_n 19 dX4_asNumber_18 rfl rfl ?_
  refine gX4_26 22 rfl dX4_asNumber_19 rfl (by first | assumption | rfl) ?_
  rw [p3]
  refine z_imul 23 dX4_asNumber_22 rfl ?_
  rw [nI_add, nI_mul]
  refine z_iadd 24 dX4_asNumber_23 rfl ?_
  refine z_aload_n 25 dX4_asNumber_24 rfl rfl ?_
  refine gX4_29 28 rfl dX4_asNumber_25 rfl (by first | assumption | rfl) ?_
  rw [nI_add, p4]
  refine z_iadd 29 dX4_asNumber_28 rfl ?_
  rw [nI_add]
  refine z_ri dX4_asNumber_29 rfl ?_
  exact ⟨rfl, rfl⟩
set_option maxRecDepth 20000 in
theorem tX9_image {E : zE} {d : Nat} {σ : zM} {S : sS} {r : Int32} (hW : WF S) (hX : RX S σ) : Ret E mX9_image (d + 2) [zr E 0, .int r] σ (qX σ (spImage S r)) := by
  have h8 := hW.2.1.1
  have hpc : gi σ 0 11 = nI (sPc S) := hX.2.2.2.1.1
  by_cases hA : ¬ inN r 6
  · refine Ret.of [some (zr E 0), some (.int r), none] (by decide +kernel) (Nat.le_of_ble_eq_true rfl) rfl ?_
    refine z_iload_n 1 dX9_image_0 rfl rfl ?_
    refine z_cSI1 4 (tX9_isRow) kX9_isRow dX9_image_1 rfl lX9_83 (Nat.le_of_ble_eq_true rfl) ?_
    rintro _ _ ⟨e1, e2⟩
    replace e1 := e1.symm
    replace e2 := e2.symm
    subst e1
    subst e2
    refine z_ifb_ne 9 7 dX9_image_4 (by decide) rfl (fun h4 => ?_) (fun h4 => ?_)
    · exact absurd h4 hA
    · refine z_iconst 8 (v := (-1)) dX9_image_7 rfl rfl ?_
      refine z_ri dX9_image_8 rfl ?_
      exact qx0 (if_pos hA) hX Fr.rf
  have e0 : spImage S r = _ := if_neg hA
  have hA : inN r 6 := Classical.byContradiction hA
  have hA' := hA
  obtain ⟨r, hr, rfl⟩ := inN_of hA
  rw [zx_nI (by omega)] at e0
  have hk := kd_r hr
  have hk1 := kd_r1 hr
  refine Ret.of [some (zr E 0), some (.int (nI r)), none] (by decide +kernel) (Nat.le_of_ble_eq_true rfl) rfl ?_
  have loop : ∀ i, i ≤ sPc S → ∀ τ, Fr (fun x y => x = 24 + 2 * r ∧ y = 1 ∨ x = 24 + 2 * r + 1) σ τ → gi τ (24 + 2 * r) 1 = nI (sPc S) → (∀ k, k < i → gi τ (24 + 2 * r + 1) k = nI (imgV (sPl S k))) → At E mX9_image (d + 2) (qX σ (spImage S (nI r))) 25 [some (zr E 0), some (.int (nI r)), some (.int (nI i))] [] τ := by
    refine z_up (fun i hi ih τ hF hs hv => ?_)
    have hpt : gi τ 0 11 = nI (sPc S) := (hF.gi (by omega)).trans hpc
    by_cases hie : i = sPc S
    · subst hie
      refine z_iload_n 26 dX9_image_25 rfl rfl ?_
      refine z_aload_n 27 dX9_image_26 rfl rfl ?_
      refine gX9_150 30 rfl dX9_image_27 rfl ?_
      rw [hpt]
      refine z_icmp_ge 58 33 dX9_image_30 (by decide) rfl (fun h30 => ?_) (fun h30 => ?_)
      · (try rw [nI_leI (by omega) (by omega)] at h30)
        refine z_aload_n 59 dX9_image_58 rfl rfl ?_
        refine gX9_150 62 rfl dX9_image_59 rfl ?_
        rw [hpt]
        refine z_ri dX9_image_62 rfl ?_
        exact qx0 e0 (hX.R hW hF hr ⟨by omega, hs, hv⟩) (hF.mono (by intros; omega))
      · (try rw [nI_leI (by omega) (by omega)] at h30)
        omega
    · have hil : i < sPc S := by omega
      have hc := kd_p (show i < 8 by omega)
      have hpy : Py τ (48 + 2 * i) (sPl S i) (44 + 2 * (sPl S i).2.1) := by
        obtain ⟨a1, a2, a3, a4, a5⟩ := hX.py hil
        exact ⟨(hF.gi (by omega)).trans a1, (hF.gi (by omega)).trans a2, (hF.gi (by omega)).trans a3, (hF.gi (by omega)).trans a4, (hF.gr (by omega)).trans a5⟩
      refine z_iload_n 26 dX9_image_25 rfl rfl ?_
      refine z_aload_n 27 dX9_image_26 rfl rfl ?_
      refine gX9_150 30 rfl dX9_image_27 rfl ?_
      rw [hpt]
      refine z_icmp_ge 58 33 dX9_image_30 (by decide) rfl (fun h30 => ?_) (fun h30 => ?_)
      · (try rw [nI_leI (by omega) (by omega)] at h30)
        omega
      · (try rw [nI_leI (by omega) (by omega)] at h30)
        refine z_aload_n 34 dX9_image_33 rfl rfl ?_
        refine gX9_11 37 rfl dX9_image_34 rfl ?_
        refine z_iload_n 38 dX9_image_37 rfl rfl ?_
        refine z_aald1 39 dX9_image_38 rfl (by omega) ?_
        refine z_iload_n 40 dX9_image_39 rfl rfl ?_
        refine z_aload_n 41 dX9_image_40 rfl rfl ?_
        refine gX9_26 44 rfl dX9_image_41 rfl ?_
        refine z_iload_n 45 dX9_image_44 rfl rfl ?_
        refine z_aald4 46 dX9_image_45 rfl (by omega) ?_
        refine z_cVI0 49 (tX4_asNumber hc hpy) kX4_asNumber dX9_image_46 rfl lX9_360 (by first | assumption | rfl) (Nat.le_of_ble_eq_true rfl) ?_
        rintro _ _ ⟨e1, e2⟩
        replace e1 := e1.symm
        replace e2 := e2.symm
        subst e1
        subst e2
        refine z_cVV2 52 (tX7_set hk hk1 hs (by omega) hil) kX7_set dX9_image_49 rfl lX9_101 (by first | assumption | rfl) (Nat.le_of_ble_eq_true rfl) ?_
        rintro _ e2
        replace e2 := e2.symm
        subst e2
        refine zs_iinc_2_3_1 55 rfl dX9_image_52 rfl rfl ?_
        rw [nI_add]
        refine z_goto 25 dX9_image_55 rfl ?_
        refine ih (i + 1) (by omega) (by omega) _ (hF.si _ (by omega)) ((gi_s2 _ _ (by omega)).trans hs) (fun k hk => ?_)
        rw [gi_si]
        by_cases hki : k = i
        · rw [if_pos ⟨rfl, hki⟩, hki]
        · rw [if_neg (fun z => hki z.2)]; exact hv k (by omega)
  refine z_iload_n 1 dX9_image_0 rfl rfl ?_
  refine z_cSI1 4 (tX9_isRow) kX9_isRow dX9_image_1 rfl lX9_83 (Nat.le_of_ble_eq_true rfl) ?_
  rintro _ _ ⟨e1, e2⟩
  replace e1 := e1.symm
  replace e2 := e2.symm
  subst e1
  subst e2
  refine z_ifb_ne 9 7 dX9_image_4 (by decide) rfl (fun h4 => ?_) (fun h4 => ?_)
  · refine z_aload_n 10 dX9_image_9 rfl rfl ?_
    refine gX9_11 13 rfl dX9_image_10 rfl ?_
    refine z_iload_n 14 dX9_image_13 rfl rfl ?_
    refine z_aald1 15 dX9_image_14 rfl (by omega) ?_
    refine z_aload_n 16 dX9_image_15 rfl rfl ?_
    refine gX9_150 19 rfl dX9_image_16 rfl ?_
    rw [hpc]
    refine z_iconst 20 (v := nI 0) dX9_image_19 rfl rfl ?_
    refine z_cVV2 23 (tX7_renew hk hk1 (show sPc S ≤ 40 by omega)) kX7_renew dX9_image_20 rfl lX9_91 (by first | assumption | rfl) (Nat.le_of_ble_eq_true rfl) ?_
    rintro τ1 ⟨hF1, hS1⟩
    refine z_iconst 24 (v := nI 0) dX9_image_23 rfl rfl ?_
    refine zs_istore_n_2_3 25 rfl dX9_image_24 rfl rfl ?_
    exact loop 0 (Nat.zero_le _) τ1 hF1 hS1.2.1 (fun k hk => absurd hk (Nat.not_lt_zero k))
  · exact absurd hA' h4
set_option maxRecDepth 20000 in
theorem tX10_image {E : zE} {d : Nat} {σ : zM} {S : sS} {r : Int32} (hW : WF S) (hX : RM S σ) : Ret E mX10_image (d + 3) [zr E 102, .int r] σ (qM σ (spImage S r)) := by
  have h8 := hW.2.1.1
  have hpc : gi σ 102 13 = nI (sPc S) := hX.2.2.2.1.1
  by_cases hA : ¬ inN r 6
  · refine Ret.of [some (zr E 102), some (.int r), none] (by decide +kernel) (Nat.le_of_ble_eq_true rfl) rfl ?_
    refine z_iload_n 1 dX10_image_0 rfl rfl ?_
    refine z_cSI1 4 (tX10_isRow) kX10_isRow dX10_image_1 rfl lX10_95 (Nat.le_of_ble_eq_true rfl) ?_
    rintro _ _ ⟨e1, e2⟩
    replace e1 := e1.symm
    replace e2 := e2.symm
    subst e1
    subst e2
    refine z_ifb_ne 9 7 dX10_image_4 (by decide) rfl (fun h4 => ?_) (fun h4 => ?_)
    · exact absurd h4 hA
    · refine z_iconst 8 (v := (-1)) dX10_image_7 rfl rfl ?_
      refine z_ri dX10_image_8 rfl ?_
      exact qm0 (if_pos hA) hX Fr.rf
  have e0 : spImage S r = _ := if_neg hA
  have hA : inN r 6 := Classical.byContradiction hA
  have hA' := hA
  obtain ⟨r, hr, rfl⟩ := inN_of hA
  rw [zx_nI (by omega)] at e0
  refine Ret.of [some (zr E 102), some (.int (nI r)), none] (by decide +kernel) (Nat.le_of_ble_eq_true rfl) rfl ?_
  have loop : ∀ i, i ≤ sPc S → ∀ τ, Fr (fun x y => x = 104 ∧ y = r ∨ x = 105 ∧ 40 * r ≤ y ∧ y < 40 * r + 40) σ τ → gi τ 104 r = nI (sPc S) → (∀ k, k < i → gi τ 105 (40 * r + k) = nI (imgV (sPl S k))) → At E mX10_image (d + 3) (qM σ (spImage S (nI r))) 21 [some (zr E 102), some (.int (nI r)), some (.int (nI i))] [] τ := by
    refine z_up (fun i hi ih τ hF hs hv => ?_)
    have hpt : gi τ 102 13 = nI (sPc S) := (hF.gi (by omega)).trans hpc
    by_cases hie : i = sPc S
    · subst hie
      refine z_iload_n 22 dX10_image_21 rfl rfl ?_
      refine z_aload_n 23 dX10_image_22 rfl rfl ?_
      refine gX10_138 26 rfl dX10_image_23 rfl ?_
      rw [hpt]
      refine z_icmp_ge 78 29 dX10_image_26 (by decide) rfl (fun h26 => ?_) (fun h26 => ?_)
      · (try rw [nI_leI (by omega) (by omega)] at h26)
        refine z_aload_n 79 dX10_image_78 rfl rfl ?_
        refine gX10_138 82 rfl dX10_image_79 rfl ?_
        rw [hpt]
        refine z_ri dX10_image_82 rfl ?_
        exact qm0 e0 (hX.R hW hF hr ⟨by omega, hs, hv⟩) (hF.mono (by intros; omega))
      · (try rw [nI_leI (by omega) (by omega)] at h26)
        omega
    · have hil : i < sPc S := by omega
      obtain ⟨a1, a2, a3, a4⟩ := (hX.py hil).fr hF (by intros; omega)
      refine z_iload_n 22 dX10_image_21 rfl rfl ?_
      refine z_aload_n 23 dX10_image_22 rfl rfl ?_
      refine gX10_138 26 rfl dX10_image_23 rfl ?_
      rw [hpt]
      refine z_icmp_ge 78 29 dX10_image_26 (by decide) rfl (fun h26 => ?_) (fun h26 => ?_)
      · (try rw [nI_leI (by omega) (by omega)] at h26)
        omega
      · (try rw [nI_leI (by omega) (by omega)] at h26)
        refine z_aload_n 30 dX10_image_29 rfl rfl ?_
        refine z_iload_n 31 dX10_image_30 rfl rfl ?_
        refine z_iload_n 32 dX10_image_31 rfl rfl ?_
        refine z_sipush 35 (v := nI 1000) dX10_image_32 rfl rfl ?_
        refine z_aload_n 36 dX10_image_35 rfl rfl ?_
        refine z_iload_n 37 dX10_image_36 rfl rfl ?_
        refine z_iconst 38 (v := nI 0) dX10_image_37 rfl rfl ?_
        refine z_cVI2 41 (tX10_tell (by omega) (by omega)) kX10_tell dX10_image_38 rfl lX10_165 (by first | assumption | rfl) (Nat.le_of_ble_eq_true rfl) ?_
        rintro _ _ ⟨e1, e2⟩
        replace e1 := e1.symm
        replace e2 := e2.symm
        subst e1
        subst e2
        rw [a1]
        refine z_imul 42 dX10_image_41 rfl ?_
        refine z_bipush 44 (v := nI 100) dX10_image_42 rfl rfl ?_
        refine z_aload_n 45 dX10_image_44 rfl rfl ?_
        refine z_iload_n 46 dX10_image_45 rfl rfl ?_
        refine z_iconst 47 (v := nI 1) dX10_image_46 rfl rfl ?_
        refine z_cVI2 50 (tX10_tell (by omega) (by omega)) kX10_tell dX10_image_47 rfl lX10_165 (by first | assumption | rfl) (Nat.le_of_ble_eq_true rfl) ?_
        rintro _ _ ⟨e1, e2⟩
        replace e1 := e1.symm
        replace e2 := e2.symm
        subst e1
        subst e2
        rw [a2]
        refine z_imul 51 dX10_image_50 rfl ?_
        refine z_iadd 52 dX10_image_51 rfl ?_
        refine z_bipush 54 (v := nI 10) dX10_image_52 rfl rfl ?_
        refine z_aload_n 55 dX10_image_54 rfl rfl ?_
        refine z_iload_n 56 dX10_image_55 rfl rfl ?_
        refine z_iconst 57 (v := nI 2) dX10_image_56 rfl rfl ?_
        refine z_cVI2 60 (tX10_tell (by omega) (by omega)) kX10_tell dX10_image_57 rfl lX10_165 (by first | assumption | rfl) (Nat.le_of_ble_eq_true rfl) ?_
        rintro _ _ ⟨e1, e2⟩
        replace e1 := e1.symm
        replace e2 := e2.symm
        subst e1
        subst e2
        rw [a3]
        refine z_imul 61 dX10_image_60 rfl ?_
        refine z_iadd 62 dX10_image_61 rfl ?_
        refine z_aload_n 63 dX10_image_62 rfl rfl ?_
        refine z_iload_n 64 dX10_image_63 rfl rfl ?_
        refine z_iconst 65 (v := nI 3) dX10_image_64 rfl rfl ?_
        refine z_cVI2 68 (tX10_tell (by omega) (by omega)) kX10_tell dX10_image_65 rfl lX10_165 (by first | assumption | rfl) (Nat.le_of_ble_eq_true rfl) ?_
        rintro _ _ ⟨e1, e2⟩
        replace e1 := e1.symm
        replace e2 := e2.symm
        subst e1
        subst e2
        rw [a4]
        refine z_iadd 69 dX10_image_68 rfl ?_
        rw [nI_mul, nI_mul, nI_add, nI_mul, nI_add, nI_add]
        refine z_cVV3 72 (tX10_setRow (by omega) (by omega)) kX10_setRow dX10_image_69 rfl lX10_106 (by first | assumption | rfl) (Nat.le_of_ble_eq_true rfl) ?_
        rintro _ e2
        replace e2 := e2.symm
        subst e2
        refine zs_iinc_2_3_1 75 rfl dX10_image_72 rfl rfl ?_
        rw [nI_add]
        refine z_goto 21 dX10_image_75 rfl ?_
        refine ih (i + 1) (by omega) (by omega) _ (hF.si _ (by omega)) ((gi_s2 _ _ (by omega)).trans hs) (fun k hk => ?_)
        rw [gi_si]
        by_cases hki : k = i
        · rw [if_pos ⟨rfl, by omega⟩, hki]; rfl
        · rw [if_neg (by omega)]; exact hv k (by omega)
  refine z_iload_n 1 dX10_image_0 rfl rfl ?_
  refine z_cSI1 4 (tX10_isRow) kX10_isRow dX10_image_1 rfl lX10_95 (Nat.le_of_ble_eq_true rfl) ?_
  rintro _ _ ⟨e1, e2⟩
  replace e1 := e1.symm
  replace e2 := e2.symm
  subst e1
  subst e2
  refine z_ifb_ne 9 7 dX10_image_4 (by decide) rfl (fun h4 => ?_) (fun h4 => ?_)
  · refine z_aload_n 10 dX10_image_9 rfl rfl ?_
    refine z_iload_n 11 dX10_image_10 rfl rfl ?_
    refine z_aload_n 12 dX10_image_11 rfl rfl ?_
    refine gX10_138 15 rfl dX10_image_12 rfl ?_
    rw [hpc]
    refine z_cVI2 18 (tX10_row0 hr (by omega)) kX10_row dX10_image_15 rfl lX10_206 (by first | assumption | rfl) (Nat.le_of_ble_eq_true rfl) ?_
    rintro _ τ1 ⟨e1, hF1, hS1⟩
    subst e1
    refine z_pop 19 dX10_image_18 rfl rfl ?_
    refine z_iconst 20 (v := nI 0) dX10_image_19 rfl rfl ?_
    refine zs_istore_n_2_3 21 rfl dX10_image_20 rfl rfl ?_
    exact loop 0 (Nat.zero_le _) τ1 hF1 hS1.2.1 (fun k hk => absurd hk (Nat.not_lt_zero k))
  · exact absurd hA' h4
