/-! count -/
theorem ifc {p q : Prop} {hp : Decidable p} {hq : Decidable q} {a b : Nat} (h : p ↔ q) : (if p then a else b) = (if q then a else b) := by
  by_cases z : p
  · rw [if_pos z, if_pos (h.mp z)]
  · rw [if_neg z, if_neg (fun y => z (h.mpr y))]
def nrw (f : Nat → sRow) (n : Nat) : Nat := fsum (fun r => if f r = none then 0 else 1) n
theorem nrw_y {f : Nat → sRow} {i : Nat} (h : f i = none) : nrw f (i + 1) = nrw f i := by
  show nrw f i + (if f i = none then 0 else 1) = _
  rw [if_pos h, Nat.add_zero]
theorem nrw_n {f : Nat → sRow} {i : Nat} (h : ¬ f i = none) : nrw f (i + 1) = nrw f i + 1 := by
  show nrw f i + (if f i = none then 0 else 1) = _
  rw [if_neg h]
abbrev slo (S : sS) (p : Nat) : Prop := (sPl S p).1 = 1 ∨ (sPl S p).1 = 4
def slp (S : sS) (n : Nat) : Nat := fsum (fun p => if slo S p then 1 else 0) n
def ctV (S : sS) (j : Nat) : Nat := match j with
  | 0 => sBw S 0
  | 1 => (if cnt S 0 then 1 else 0) + (if cnt S 1 then 1 else 0)
  | 2 => sPc S
  | 3 => slp S (sPc S)
  | 4 => sLc S
  | 5 => gls S (sLc S)
  | 6 => nrw (sR S) 6
  | _ => nrw (sT S) 4
set_option maxRecDepth 20000 in
theorem tX9_sheetsR {E : zE} {d : Nat} {σ : zM} {S : sS} (hX : RX S σ) : Ret E mX9_sheetsThere (d + 1) [zr E 1] σ (qI fun x τ => x = nI (nrw (sR S) 6) ∧ τ = σ) := by
  refine Ret.of [some (zr E 1), none, none] (by decide +kernel) (Nat.le_of_ble_eq_true rfl) rfl ?_
  have loop : ∀ i, i ≤ 6 → At E mX9_sheetsThere (d + 1) (qI fun x τ => x = nI (nrw (sR S) 6) ∧ τ = σ) 4 [some (zr E 1), some (.int (nI (nrw (sR S) i))), some (.int (nI i))] [] σ := by
    refine z_up (fun i hi ih => ?_)
    by_cases hie : i = 6
    · subst hie
      refine z_iload_n 5 dX9_sheetsThere_4 rfl rfl ?_
      refine z_aload_n 6 dX9_sheetsThere_5 rfl rfl ?_
      refine z_alenR 7 (t := 0) (n := 6) dX9_sheetsThere_6 rfl rfl rfl (by decide) ?_
      refine z_icmp_ge 28 10 dX9_sheetsThere_7 (by decide) rfl (fun h7 => ?_) (fun h7 => ?_)
      · (try rw [nI_leI (by omega) (by omega)] at h7)
        refine z_iload_n 29 dX9_sheetsThere_28 rfl rfl ?_
        refine z_ri dX9_sheetsThere_29 rfl ?_
        exact ⟨rfl, rfl⟩
      · (try rw [nI_leI (by omega) (by omega)] at h7)
        omega
    · have hk := kd_r (show i < 6 by omega)
      have hk1 := kd_r1 (show i < 6 by omega)
      have hS : Sh σ (24 + 2 * i) 40 (sR S i) := hX.1 i (by omega)
      have hih := ih (i + 1) (by omega) (by omega)
      refine z_iload_n 5 dX9_sheetsThere_4 rfl rfl ?_
      refine z_aload_n 6 dX9_sheetsThere_5 rfl rfl ?_
      refine z_alenR 7 (t := 0) (n := 6) dX9_sheetsThere_6 rfl rfl rfl (by decide) ?_
      refine z_icmp_ge 28 10 dX9_sheetsThere_7 (by decide) rfl (fun h7 => ?_) (fun h7 => ?_)
      · (try rw [nI_leI (by omega) (by omega)] at h7)
        omega
      · (try rw [nI_leI (by omega) (by omega)] at h7)
        refine z_aload_n 11 dX9_sheetsThere_10 rfl rfl ?_
        refine z_iload_n 12 dX9_sheetsThere_11 rfl rfl ?_
        refine z_aald1 13 dX9_sheetsThere_12 rfl (by omega) ?_
        refine z_cVI0 16 (tX7_isM (by first | assumption | rfl) (by first | assumption | rfl) (by first | assumption | rfl)) kX7_isMissing dX9_sheetsThere_13 rfl lX9_107 (by first | assumption | rfl) (Nat.le_of_ble_eq_true rfl) ?_
        rintro _ _ ⟨e1, e2⟩
        replace e1 := e1.symm
        replace e2 := e2.symm
        subst e1
        subst e2
        refine z_ifb_ne 22 19 dX9_sheetsThere_16 (by decide) rfl (fun h16 => ?_) (fun h16 => ?_)
        · rw [nrw_y h16] at hih
          try rw [nI_add]
          refine zs_iinc_2_3_1 25 rfl dX9_sheetsThere_22 rfl rfl ?_
          rw [nI_add]
          refine z_goto 4 dX9_sheetsThere_25 rfl ?_
          exact hih
        · rw [nrw_n h16] at hih
          refine zs_iinc_1_3_1 22 rfl dX9_sheetsThere_19 rfl rfl ?_
          try rw [nI_add]
          refine zs_iinc_2_3_1 25 rfl dX9_sheetsThere_22 rfl rfl ?_
          rw [nI_add]
          refine z_goto 4 dX9_sheetsThere_25 rfl ?_
          exact hih
  refine z_iconst 1 (v := nI 0) dX9_sheetsThere_0 rfl rfl ?_
  refine zs_istore_n_1_3 2 rfl dX9_sheetsThere_1 rfl rfl ?_
  refine z_iconst 3 (v := nI 0) dX9_sheetsThere_2 rfl rfl ?_
  refine zs_istore_n_2_3 4 rfl dX9_sheetsThere_3 rfl rfl ?_
  exact loop 0 (Nat.zero_le _)
set_option maxRecDepth 20000 in
theorem tX9_sheetsT {E : zE} {d : Nat} {σ : zM} {S : sS} (hX : RX S σ) : Ret E mX9_sheetsThere (d + 1) [zr E 2] σ (qI fun x τ => x = nI (nrw (sT S) 4) ∧ τ = σ) := by
  refine Ret.of [some (zr E 2), none, none] (by decide +kernel) (Nat.le_of_ble_eq_true rfl) rfl ?_
  have loop : ∀ i, i ≤ 4 → At E mX9_sheetsThere (d + 1) (qI fun x τ => x = nI (nrw (sT S) 4) ∧ τ = σ) 4 [some (zr E 2), some (.int (nI (nrw (sT S) i))), some (.int (nI i))] [] σ := by
    refine z_up (fun i hi ih => ?_)
    by_cases hie : i = 4
    · subst hie
      refine z_iload_n 5 dX9_sheetsThere_4 rfl rfl ?_
      refine z_aload_n 6 dX9_sheetsThere_5 rfl rfl ?_
      refine z_alenR 7 (t := 0) (n := 4) dX9_sheetsThere_6 rfl rfl rfl (by decide) ?_
      refine z_icmp_ge 28 10 dX9_sheetsThere_7 (by decide) rfl (fun h7 => ?_) (fun h7 => ?_)
      · (try rw [nI_leI (by omega) (by omega)] at h7)
        refine z_iload_n 29 dX9_sheetsThere_28 rfl rfl ?_
        refine z_ri dX9_sheetsThere_29 rfl ?_
        exact ⟨rfl, rfl⟩
      · (try rw [nI_leI (by omega) (by omega)] at h7)
        omega
    · have hk := kd_t (show i < 4 by omega)
      have hk1 := kd_t1 (show i < 4 by omega)
      have hS : Sh σ (36 + 2 * i) 120 (sT S i) := hX.2.1 i (by omega)
      have hih := ih (i + 1) (by omega) (by omega)
      refine z_iload_n 5 dX9_sheetsThere_4 rfl rfl ?_
      refine z_aload_n 6 dX9_sheetsThere_5 rfl rfl ?_
      refine z_alenR 7 (t := 0) (n := 4) dX9_sheetsThere_6 rfl rfl rfl (by decide) ?_
      refine z_icmp_ge 28 10 dX9_sheetsThere_7 (by decide) rfl (fun h7 => ?_) (fun h7 => ?_)
      · (try rw [nI_leI (by omega) (by omega)] at h7)
        omega
      · (try rw [nI_leI (by omega) (by omega)] at h7)
        refine z_aload_n 11 dX9_sheetsThere_10 rfl rfl ?_
        refine z_iload_n 12 dX9_sheetsThere_11 rfl rfl ?_
        refine z_aald2 13 dX9_sheetsThere_12 rfl (by omega) ?_
        refine z_cVI0 16 (tX7_isM (by first | assumption | rfl) (by first | assumption | rfl) (by first | assumption | rfl)) kX7_isMissing dX9_sheetsThere_13 rfl lX9_107 (by first | assumption | rfl) (Nat.le_of_ble_eq_true rfl) ?_
        rintro _ _ ⟨e1, e2⟩
        replace e1 := e1.symm
        replace e2 := e2.symm
        subst e1
        subst e2
        refine z_ifb_ne 22 19 dX9_sheetsThere_16 (by decide) rfl (fun h16 => ?_) (fun h16 => ?_)
        · rw [nrw_y h16] at hih
          try rw [nI_add]
          refine zs_iinc_2_3_1 25 rfl dX9_sheetsThere_22 rfl rfl ?_
          rw [nI_add]
          refine z_goto 4 dX9_sheetsThere_25 rfl ?_
          exact hih
        · rw [nrw_n h16] at hih
          refine zs_iinc_1_3_1 22 rfl dX9_sheetsThere_19 rfl rfl ?_
          try rw [nI_add]
          refine zs_iinc_2_3_1 25 rfl dX9_sheetsThere_22 rfl rfl ?_
          rw [nI_add]
          refine z_goto 4 dX9_sheetsThere_25 rfl ?_
          exact hih
  refine z_iconst 1 (v := nI 0) dX9_sheetsThere_0 rfl rfl ?_
  refine zs_istore_n_1_3 2 rfl dX9_sheetsThere_1 rfl rfl ?_
  refine z_iconst 3 (v := nI 0) dX9_sheetsThere_2 rfl rfl ?_
  refine zs_istore_n_2_3 4 rfl dX9_sheetsThere_3 rfl rfl ?_
  exact loop 0 (Nat.zero_le _)
set_option maxRecDepth 20000 in
theorem tX9_sloppyPlayers {E : zE} {d : Nat} {σ : zM} {S : sS} (hW : WF S) (hX : RX S σ) : Ret E mX9_sloppyPlayers (d + 1) [zr E 0] σ (qI fun x τ => x = nI (slp S (sPc S)) ∧ τ = σ) := by
  have h8 := hW.2.1.1
  have hpc : gi σ 0 11 = nI (sPc S) := hX.2.2.2.1.1
  refine Ret.of [some (zr E 0), none, none] (by decide +kernel) (Nat.le_of_ble_eq_true rfl) rfl ?_
  have loop : ∀ i, i ≤ sPc S → At E mX9_sloppyPlayers (d + 1) (qI fun x τ => x = nI (slp S (sPc S)) ∧ τ = σ) 4 [some (zr E 0), some (.int (nI (slp S i))), some (.int (nI i))] [] σ := by
    refine z_up (fun i hi ih => ?_)
    by_cases hie : i = sPc S
    · subst hie
      refine z_iload_n 5 dX9_sloppyPlayers_4 rfl rfl ?_
      refine z_aload_n 6 dX9_sloppyPlayers_5 rfl rfl ?_
      refine gX9_150 9 rfl dX9_sloppyPlayers_6 rfl ?_
      rw [hpc]
      refine z_icmp_ge 34 12 dX9_sloppyPlayers_9 (by decide) rfl (fun h9 => ?_) (fun h9 => ?_)
      · (try rw [nI_leI (by omega) (by omega)] at h9)
        refine z_iload_n 35 dX9_sloppyPlayers_34 rfl rfl ?_
        refine z_ri dX9_sloppyPlayers_35 rfl ?_
        exact ⟨rfl, rfl⟩
      · (try rw [nI_leI (by omega) (by omega)] at h9)
        omega
    · have hil : i < sPc S := by omega
      have hci := kd_p (show i < 8 by omega)
      have hih := ih (i + 1) (by omega) (by omega)
      have er : slp S (i + 1) = slp S i + if slo S i then 1 else 0 := rfl
      refine z_iload_n 5 dX9_sloppyPlayers_4 rfl rfl ?_
      refine z_aload_n 6 dX9_sloppyPlayers_5 rfl rfl ?_
      refine gX9_150 9 rfl dX9_sloppyPlayers_6 rfl ?_
      rw [hpc]
      refine z_icmp_ge 34 12 dX9_sloppyPlayers_9 (by decide) rfl (fun h9 => ?_) (fun h9 => ?_)
      · (try rw [nI_leI (by omega) (by omega)] at h9)
        omega
      · (try rw [nI_leI (by omega) (by omega)] at h9)
        refine z_aload_n 13 dX9_sloppyPlayers_12 rfl rfl ?_
        refine gX9_26 16 rfl dX9_sloppyPlayers_13 rfl ?_
        refine z_iload_n 17 dX9_sloppyPlayers_16 rfl rfl ?_
        refine z_aald4 18 dX9_sloppyPlayers_17 rfl (by omega) ?_
        refine z_iconst 19 (v := nI 1) dX9_sloppyPlayers_18 rfl rfl ?_
        refine z_cVI1 22 (tX4_is (k := 1) hci (hX.py hil) (plOK hW hil).1 (by decide)) kX4_is dX9_sloppyPlayers_19 rfl lX9_182 (by first | assumption | rfl) (Nat.le_of_ble_eq_true rfl) ?_
        rintro _ _ ⟨e1, e2⟩
        replace e1 := e1.symm
        replace e2 := e2.symm
        subst e1
        subst e2
        refine z_ifb_eq 28 25 dX9_sloppyPlayers_22 (by decide) rfl (fun h22 => ?_) (fun h22 => ?_)
        · rw [er, if_neg (fun z => h22 (z.imp id (fun q => ⟨q, rfl⟩))), Nat.add_zero] at hih
          try rw [nI_add]
          refine zs_iinc_2_3_1 31 rfl dX9_sloppyPlayers_28 rfl rfl ?_
          rw [nI_add]
          refine z_goto 4 dX9_sloppyPlayers_31 rfl ?_
          exact hih
        · rw [er, if_pos (h22.imp id (fun q => q.1))] at hih
          refine zs_iinc_1_3_1 28 rfl dX9_sloppyPlayers_25 rfl rfl ?_
          try rw [nI_add]
          refine zs_iinc_2_3_1 31 rfl dX9_sloppyPlayers_28 rfl rfl ?_
          rw [nI_add]
          refine z_goto 4 dX9_sloppyPlayers_31 rfl ?_
          exact hih
  refine z_iconst 1 (v := nI 0) dX9_sloppyPlayers_0 rfl rfl ?_
  refine zs_istore_n_1_3 2 rfl dX9_sloppyPlayers_1 rfl rfl ?_
  refine z_iconst 3 (v := nI 0) dX9_sloppyPlayers_2 rfl rfl ?_
  refine zs_istore_n_2_3 4 rfl dX9_sloppyPlayers_3 rfl rfl ?_
  exact loop 0 (Nat.zero_le _)
set_option maxRecDepth 20000 in
theorem tX9_countJ {E : zE} {d : Nat} {σ : zM} {S : sS} {j : Nat} (hW : WF S) (hX : RX S σ) (hj : j < 8) : Ret E mX9_count (d + 2) [zr E 0, .int (nI j)] σ (qI fun x τ => x = nI (ctV S j) ∧ τ = σ) := by
  refine Ret.of [some (zr E 0), some (.int (nI j))] (by decide +kernel) (Nat.le_of_ble_eq_true rfl) rfl ?_
  refine z_iload_n 1 dX9_count_0 rfl rfl ?_
  match j, hj with
  | 0, _ =>
    refine z_tab 48 dX9_count_1 (by decide) (by decide) rfl (by decide) ?_
    refine z_aload_n 49 dX9_count_48 rfl rfl ?_
    refine gX9_20 52 rfl dX9_count_49 rfl ?_
    refine z_iconst 53 (v := nI 0) dX9_count_52 rfl rfl ?_
    refine z_aald3 54 dX9_count_53 rfl (by omega) ?_
    refine gX9_156 57 rfl dX9_count_54 rfl (by first | assumption | rfl) ?_
    refine z_ri dX9_count_57 rfl ?_
    exact ⟨(hX.2.2.1 0 (by decide)).1, rfl⟩
  | 1, _ =>
    refine z_tab 58 dX9_count_1 (by decide) (by decide) rfl (by decide) ?_
    refine z_aload_n 59 dX9_count_58 rfl rfl ?_
    refine z_iconst 60 (v := nI 0) dX9_count_59 rfl rfl ?_
    refine z_cVI1 63 (tX9_boxCounts (by assumption) (by assumption) (by omega)) kX9_boxCounts dX9_count_60 rfl lX9_162 (by first | assumption | rfl) (Nat.le_of_ble_eq_true rfl) ?_
    rintro _ _ ⟨e1, e2⟩
    replace e1 := e1.symm
    replace e2 := e2.symm
    subst e1
    subst e2
    refine z_ifb_eq 70 66 dX9_count_63 (by decide) rfl (fun h63 => ?_) (fun h63 => ?_)
    · refine z_iconst 71 (v := nI 0) dX9_count_70 rfl rfl ?_
      refine z_aload_n 72 dX9_count_71 rfl rfl ?_
      refine z_iconst 73 (v := nI 1) dX9_count_72 rfl rfl ?_
      refine z_cVI1 76 (tX9_boxCounts (by assumption) (by assumption) (by omega)) kX9_boxCounts dX9_count_73 rfl lX9_162 (by first | assumption | rfl) (Nat.le_of_ble_eq_true rfl) ?_
      rintro _ _ ⟨e1, e2⟩
      replace e1 := e1.symm
      replace e2 := e2.symm
      subst e1
      subst e2
      refine z_ifb_eq 83 79 dX9_count_76 (by decide) rfl (fun h76 => ?_) (fun h76 => ?_)
      · refine z_iconst 84 (v := nI 0) dX9_count_83 rfl rfl ?_
        refine z_iadd 85 dX9_count_84 rfl ?_
        rw [nI_add]
        refine z_ri dX9_count_85 rfl ?_
        refine ⟨?_, rfl⟩
        first
          | (rw [show ctV S 1 = 1 + 1 by show (if cnt S 0 then 1 else 0) + (if cnt S 1 then 1 else 0) = _; rw [if_pos h63, if_pos h76]])
          | (rw [show ctV S 1 = 1 + 0 by show (if cnt S 0 then 1 else 0) + (if cnt S 1 then 1 else 0) = _; rw [if_pos h63, if_neg h76]])
          | (rw [show ctV S 1 = 0 + 1 by show (if cnt S 0 then 1 else 0) + (if cnt S 1 then 1 else 0) = _; rw [if_neg h63, if_pos h76]])
          | (rw [show ctV S 1 = 0 + 0 by show (if cnt S 0 then 1 else 0) + (if cnt S 1 then 1 else 0) = _; rw [if_neg h63, if_neg h76]])
      · refine z_iconst 80 (v := nI 1) dX9_count_79 rfl rfl ?_
        refine z_goto 84 dX9_count_80 rfl ?_
        refine z_iadd 85 dX9_count_84 rfl ?_
        rw [nI_add]
        refine z_ri dX9_count_85 rfl ?_
        refine ⟨?_, rfl⟩
        first
          | (rw [show ctV S 1 = 1 + 1 by show (if cnt S 0 then 1 else 0) + (if cnt S 1 then 1 else 0) = _; rw [if_pos h63, if_pos h76]])
          | (rw [show ctV S 1 = 1 + 0 by show (if cnt S 0 then 1 else 0) + (if cnt S 1 then 1 else 0) = _; rw [if_pos h63, if_neg h76]])
          | (rw [show ctV S 1 = 0 + 1 by show (if cnt S 0 then 1 else 0) + (if cnt S 1 then 1 else 0) = _; rw [if_neg h63, if_pos h76]])
          | (rw [show ctV S 1 = 0 + 0 by show (if cnt S 0 then 1 else 0) + (if cnt S 1 then 1 else 0) = _; rw [if_neg h63, if_neg h76]])
    · refine z_iconst 67 (v := nI 1) dX9_count_66 rfl rfl ?_
      refine z_goto 71 dX9_count_67 rfl ?_
      refine z_aload_n 72 dX9_count_71 rfl rfl ?_
      refine z_iconst 73 (v := nI 1) dX9_count_72 rfl rfl ?_
      refine z_cVI1 76 (tX9_boxCounts (by assumption) (by assumption) (by omega)) kX9_boxCounts dX9_count_73 rfl lX9_162 (by first | assumption | rfl) (Nat.le_of_ble_eq_true rfl) ?_
      rintro _ _ ⟨e1, e2⟩
      replace e1 := e1.symm
      replace e2 := e2.symm
      subst e1
      subst e2
      refine z_ifb_eq 83 79 dX9_count_76 (by decide) rfl (fun h76 => ?_) (fun h76 => ?_)
      · refine z_iconst 84 (v := nI 0) dX9_count_83 rfl rfl ?_
        refine z_iadd 85 dX9_count_84 rfl ?_
        rw [nI_add]
        refine z_ri dX9_count_85 rfl ?_
        refine ⟨?_, rfl⟩
        first
          | (rw [show ctV S 1 = 1 + 1 by show (if cnt S 0 then 1 else 0) + (if cnt S 1 then 1 else 0) = _; rw [if_pos h63, if_pos h76]])
          | (rw [show ctV S 1 = 1 + 0 by show (if cnt S 0 then 1 else 0) + (if cnt S 1 then 1 else 0) = _; rw [if_pos h63, if_neg h76]])
          | (rw [show ctV S 1 = 0 + 1 by show (if cnt S 0 then 1 else 0) + (if cnt S 1 then 1 else 0) = _; rw [if_neg h63, if_pos h76]])
          | (rw [show ctV S 1 = 0 + 0 by show (if cnt S 0 then 1 else 0) + (if cnt S 1 then 1 else 0) = _; rw [if_neg h63, if_neg h76]])
      · refine z_iconst 80 (v := nI 1) dX9_count_79 rfl rfl ?_
        refine z_goto 84 dX9_count_80 rfl ?_
        refine z_iadd 85 dX9_count_84 rfl ?_
        rw [nI_add]
        refine z_ri dX9_count_85 rfl ?_
        refine ⟨?_, rfl⟩
        first
          | (rw [show ctV S 1 = 1 + 1 by show (if cnt S 0 then 1 else 0) + (if cnt S 1 then 1 else 0) = _; rw [if_pos h63, if_pos h76]])
          | (rw [show ctV S 1 = 1 + 0 by show (if cnt S 0 then 1 else 0) + (if cnt S 1 then 1 else 0) = _; rw [if_pos h63, if_neg h76]])
          | (rw [show ctV S 1 = 0 + 1 by show (if cnt S 0 then 1 else 0) + (if cnt S 1 then 1 else 0) = _; rw [if_neg h63, if_pos h76]])
          | (rw [show ctV S 1 = 0 + 0 by show (if cnt S 0 then 1 else 0) + (if cnt S 1 then 1 else 0) = _; rw [if_neg h63, if_neg h76]])
  | 2, _ =>
    refine z_tab 86 dX9_count_1 (by decide) (by decide) rfl (by decide) ?_
    refine z_aload_n 87 dX9_count_86 rfl rfl ?_
    refine gX9_150 90 rfl dX9_count_87 rfl ?_
    refine z_ri dX9_count_90 rfl ?_
    exact ⟨hX.2.2.2.1.1, rfl⟩
  | 3, _ =>
    refine z_tab 91 dX9_count_1 (by decide) (by decide) rfl (by decide) ?_
    refine z_aload_n 92 dX9_count_91 rfl rfl ?_
    refine z_cVI0 95 (tX9_sloppyPlayers hW hX) kX9_sloppyPlayers dX9_count_92 rfl lX9_380 (by first | assumption | rfl) (Nat.le_of_ble_eq_true rfl) ?_
    rintro _ _ ⟨e1, e2⟩
    replace e1 := e1.symm
    replace e2 := e2.symm
    subst e1
    subst e2
    refine z_ri dX9_count_95 rfl ?_
    exact ⟨rfl, rfl⟩
  | 4, _ =>
    refine z_tab 96 dX9_count_1 (by decide) (by decide) rfl (by decide) ?_
    refine z_aload_n 97 dX9_count_96 rfl rfl ?_
    refine gX9_153 100 rfl dX9_count_97 rfl ?_
    refine z_ri dX9_count_100 rfl ?_
    exact ⟨hX.2.2.2.2.1.1, rfl⟩
  | 5, _ =>
    refine z_tab 101 dX9_count_1 (by decide) (by decide) rfl (by decide) ?_
    refine z_aload_n 102 dX9_count_101 rfl rfl ?_
    refine z_cVI0 105 (tX9_guessLeaves hW hX) kX9_guessLeaves dX9_count_102 rfl lX9_347 (by first | assumption | rfl) (Nat.le_of_ble_eq_true rfl) ?_
    rintro _ _ ⟨e1, e2⟩
    replace e1 := e1.symm
    replace e2 := e2.symm
    subst e1
    subst e2
    refine z_ri dX9_count_105 rfl ?_
    exact ⟨rfl, rfl⟩
  | 6, _ =>
    refine z_tab 106 dX9_count_1 (by decide) (by decide) rfl (by decide) ?_
    refine z_aload_n 107 dX9_count_106 rfl rfl ?_
    refine gX9_11 110 rfl dX9_count_107 rfl ?_
    refine z_cSI1 113 (tX9_sheetsR hX) kX9_sheetsThere dX9_count_110 rfl lX9_383 (Nat.le_of_ble_eq_true rfl) ?_
    rintro _ _ ⟨e1, e2⟩
    replace e1 := e1.symm
    replace e2 := e2.symm
    subst e1
    subst e2
    refine z_ri dX9_count_113 rfl ?_
    exact ⟨rfl, rfl⟩
  | 7, _ =>
    refine z_tab 114 dX9_count_1 (by decide) (by decide) rfl (by decide) ?_
    refine z_aload_n 115 dX9_count_114 rfl rfl ?_
    refine gX9_15 118 rfl dX9_count_115 rfl ?_
    refine z_cSI1 121 (tX9_sheetsT hX) kX9_sheetsThere dX9_count_118 rfl lX9_383 (Nat.le_of_ble_eq_true rfl) ?_
    rintro _ _ ⟨e1, e2⟩
    replace e1 := e1.symm
    replace e2 := e2.symm
    subst e1
    subst e2
    refine z_ri dX9_count_121 rfl ?_
    exact ⟨rfl, rfl⟩
def spCount (S : sS) (w : Int32) : Int32 × sS := if inN w 8 then (nI (ctV S (zx w)), S) else (-1, S)
theorem not8 {w : Int32} (h : ¬ inN w 8) : w.toInt < 0 ∨ 7 < w.toInt := by
  rcases Int.lt_or_le w.toInt 0 with h0 | h0
  · exact Or.inl h0
  · refine Or.inr ?_
    rcases Int.lt_or_le 7 w.toInt with h1 | h1
    · exact h1
    · refine absurd ⟨fun z => ?_, ?_⟩ h
      · rw [Int32.lt_iff_toInt_lt] at z
        rw [show (0 : Int32).toInt = 0 from by decide] at z
        omega
      · show w.toInt.toNat < 8
        omega
set_option maxRecDepth 20000 in
theorem tX9_count {E : zE} {d : Nat} {σ : zM} {S : sS} {w : Int32} (hW : WF S) (hX : RX S σ) : Ret E mX9_count (d + 2) [zr E 0, .int w] σ (qX σ (spCount S w)) := by
  by_cases hA : inN w 8
  · have e0 : spCount S w = _ := if_pos hA
    obtain ⟨j, hj, rfl⟩ := inN_of hA
    rw [zx_nI (by omega)] at e0
    refine (tX9_countJ hW hX hj).imp (fun v τ h => ?_)
    obtain ⟨x, h1, h2, h3⟩ := h
    subst h2
    subst h3
    exact ⟨_, h1, qx0 e0 hX Fr.rf⟩
  · refine Ret.of [some (zr E 0), some (.int w)] (by decide +kernel) (Nat.le_of_ble_eq_true rfl) rfl ?_
    refine z_iload_n 1 dX9_count_0 rfl rfl ?_
    refine z_tabD 122 dX9_count_1 (not8 hA) (by decide) ?_
    refine z_iconst 123 (v := (-1)) dX9_count_122 rfl rfl ?_
    refine z_ri dX9_count_123 rfl ?_
    exact qx0 (if_neg hA) hX Fr.rf
/-! of the reference -/
abbrev cb (S : sS) (j k : Nat) : Prop := (j = 6 ∧ k < 6 ∧ ¬ sR S k = none) ∨ (j = 7 ∧ k < 4 ∧ ¬ sT S k = none) ∨ (j = 1 ∧ k < 2 ∧ cnt S k) ∨ (j = 3 ∧ k < sPc S ∧ slo S k)
def cbF (S : sS) (j n : Nat) : Nat := fsum (fun k => if cb S j k then 1 else 0) n
theorem cbF_y {S : sS} {j i : Nat} (h : cb S j i) : cbF S j (i + 1) = cbF S j i + 1 := by
  show cbF S j i + (if cb S j i then 1 else 0) = _
  rw [if_pos h]
theorem cbF_n {S : sS} {j i : Nat} (h : ¬ cb S j i) : cbF S j (i + 1) = cbF S j i + 0 := by
  show cbF S j i + (if cb S j i then 1 else 0) = _
  rw [if_neg h]
theorem fsum_cut {f : Nat → Nat} {m : Nat} : ∀ n, m ≤ n → (∀ i, m ≤ i → i < n → f i = 0) → fsum f n = fsum f m := by
  intro n
  induction n with
  | zero => intro h _; rw [show m = 0 by omega]
  | succ n ih =>
    intro h hz
    by_cases he : m = n + 1
    · rw [he]
    · rw [fsum, hz n (by omega) (by omega), Nat.add_zero]
      exact ih (by omega) (fun i h1 h2 => hz i h1 (by omega))
theorem ct_eq {S : sS} (hW : WF S) {j : Nat} (hj : j < 8) (h0 : ¬ j = 0) (h2 : ¬ j = 2) (h4 : ¬ j = 4) : ctV S j = cbF S j 8 + if j = 5 then gls S (sLc S) else 0 := by
  have h8 := hW.2.1.1
  match j, hj with
  | 0, _ => exact absurd rfl h0
  | 2, _ => exact absurd rfl h2
  | 4, _ => exact absurd rfl h4
  | 1, _ =>
    rw [if_neg (by decide), Nat.add_zero]
    show _ = fsum (fun k => if cb S 1 k then 1 else 0) 8
    rw [fsum_cut (m := 2) 8 (by decide) (fun i h1 h3 => if_neg (fun z => by
      rcases z with z | z | z | z
      · exact absurd z.1 (by decide)
      · exact absurd z.1 (by decide)
      · exact absurd z.2.1 (by omega)
      · exact absurd z.1 (by decide)))]
    have key : ∀ i, i < 2 → (cb S 1 i ↔ cnt S i) := fun i hi => ⟨fun z => by
      rcases z with z | z | z | z
      · exact absurd z.1 (by decide)
      · exact absurd z.1 (by decide)
      · exact z.2.2
      · exact absurd z.1 (by decide), fun z => Or.inr (Or.inr (Or.inl ⟨rfl, hi, z⟩))⟩
    have k0 : (if cb S 1 0 then 1 else 0) = (if cnt S 0 then 1 else 0) := ifc (key 0 (by decide))
    have k1 : (if cb S 1 1 then 1 else 0) = (if cnt S 1 then 1 else 0) := ifc (key 1 (by decide))
    show (if cnt S 0 then 1 else 0) + (if cnt S 1 then 1 else 0) = 0 + (if cb S 1 0 then 1 else 0) + (if cb S 1 1 then 1 else 0)
    rw [k0, k1, Nat.zero_add]
  | 3, _ =>
    rw [if_neg (by decide), Nat.add_zero]
    show slp S (sPc S) = fsum (fun k => if cb S 3 k then 1 else 0) 8
    rw [fsum_cut (m := sPc S) 8 h8 (fun i h1 h3 => if_neg (fun z => by
      rcases z with z | z | z | z
      · exact absurd z.1 (by decide)
      · exact absurd z.1 (by decide)
      · exact absurd z.1 (by decide)
      · exact absurd z.2.1 (by omega)))]
    refine fsum_congr _ (fun i hi => ifc ⟨fun z => Or.inr (Or.inr (Or.inr ⟨rfl, hi, z⟩)), fun z => ?_⟩)
    rcases z with z | z | z | z
    · exact absurd z.1 (by decide)
    · exact absurd z.1 (by decide)
    · exact absurd z.1 (by decide)
    · exact z.2.2
  | 5, _ =>
    rw [if_pos rfl]
    have : cbF S 5 8 = 0 := by
      have h := fsum_cut (f := fun k => if cb S 5 k then 1 else 0) (m := 0) 8 (by decide) (fun i _ _ => if_neg (fun z => by
        rcases z with z | z | z | z <;> exact absurd z.1 (by decide)))
      exact h
    rw [this, Nat.zero_add]
    rfl
  | 6, _ =>
    rw [if_neg (by decide), Nat.add_zero]
    show nrw (sR S) 6 = fsum (fun k => if cb S 6 k then 1 else 0) 8
    rw [fsum_cut (m := 6) 8 (by decide) (fun i h1 h3 => if_neg (fun z => by
      rcases z with z | z | z | z
      · exact absurd z.2.1 (by omega)
      · exact absurd z.1 (by decide)
      · exact absurd z.1 (by decide)
      · exact absurd z.1 (by decide)))]
    refine fsum_congr _ (fun i hi => ?_)
    by_cases hz : sR S i = none
    · show (if sR S i = none then 0 else 1) = if cb S 6 i then 1 else 0
      rw [if_pos hz, if_neg (fun z => by
        rcases z with z | z | z | z
        · exact z.2.2 hz
        · exact absurd z.1 (by decide)
        · exact absurd z.1 (by decide)
        · exact absurd z.1 (by decide))]
    · show (if sR S i = none then 0 else 1) = if cb S 6 i then 1 else 0
      rw [if_neg hz, if_pos (Or.inl ⟨rfl, hi, hz⟩)]
  | 7, _ =>
    rw [if_neg (by decide), Nat.add_zero]
    show nrw (sT S) 4 = fsum (fun k => if cb S 7 k then 1 else 0) 8
    rw [fsum_cut (m := 4) 8 (by decide) (fun i h1 h3 => if_neg (fun z => by
      rcases z with z | z | z | z
      · exact absurd z.1 (by decide)
      · exact absurd z.2.1 (by omega)
      · exact absurd z.1 (by decide)
      · exact absurd z.1 (by decide)))]
    refine fsum_congr _ (fun i hi => ?_)
    by_cases hz : sT S i = none
    · show (if sT S i = none then 0 else 1) = if cb S 7 i then 1 else 0
      rw [if_pos hz, if_neg (fun z => by
        rcases z with z | z | z | z
        · exact absurd z.1 (by decide)
        · exact z.2.2 hz
        · exact absurd z.1 (by decide)
        · exact absurd z.1 (by decide))]
    · show (if sT S i = none then 0 else 1) = if cb S 7 i then 1 else 0
      rw [if_neg hz, if_pos (Or.inr (Or.inl ⟨rfl, hi, hz⟩))]
set_option maxRecDepth 20000 in
theorem tX10_counts {E : zE} {d : Nat} {σ : zM} {S : sS} {j : Nat} (hW : WF S) (hX : RM S σ) (hj : j < 8) : Ret E mX10_counts (d + 2) [zr E 102, .int (nI j)] σ (qI fun x τ => x = nI (ctV S j) ∧ τ = σ) := by
  have h8 := hW.2.1.1
  have h12 := hW.2.2.1
  have hpm : gi σ 102 13 = nI (sPc S) := hX.2.2.2.1.1
  have hlc : gi σ 102 35 = nI (sLc S) := hX.2.2.2.2.1.1
  refine Ret.of [some (zr E 102), some (.int (nI j)), none, none] (by decide +kernel) (Nat.le_of_ble_eq_true rfl) rfl ?_
  have fin : ∀ m y, (¬ j = 0 → ¬ j = 2 → ¬ j = 4 → m = ctV S j) → At E mX10_counts (d + 2) (qI fun x τ => x = nI (ctV S j) ∧ τ = σ) 134 [some (zr E 102), some (.int (nI j)), some (.int (nI m)), y] [] σ := by
    intro m y hm
    refine z_iload_n 135 dX10_counts_134 rfl rfl ?_
    refine z_if_ne 145 138 dX10_counts_135 (by decide) rfl (fun h135 => ?_) (fun h135 => ?_)
    · (try rw [nI_eq0 (by omega)] at h135)
      refine z_iload_n 146 dX10_counts_145 rfl rfl ?_
      refine z_iconst 147 (v := nI 2) dX10_counts_146 rfl rfl ?_
      refine z_icmp_ne 157 150 dX10_counts_147 (by decide) rfl (fun h147 => ?_) (fun h147 => ?_)
      · (try rw [nI_eq (by omega) (by omega)] at h147)
        refine z_iload_n 158 dX10_counts_157 rfl rfl ?_
        refine z_iconst 159 (v := nI 4) dX10_counts_158 rfl rfl ?_
        refine z_icmp_ne 169 162 dX10_counts_159 (by decide) rfl (fun h159 => ?_) (fun h159 => ?_)
        · (try rw [nI_eq (by omega) (by omega)] at h159)
          refine z_iload_n 170 dX10_counts_169 rfl rfl ?_
          refine z_ri dX10_counts_170 rfl ?_
          first
            | exact ⟨by rw [h135]; rfl, rfl⟩
            | exact ⟨by rw [h147]; rfl, rfl⟩
            | exact ⟨by rw [h159]; rfl, rfl⟩
            | exact ⟨by rw [hm h135 h147 h159], rfl⟩
        · (try rw [nI_eq (by omega) (by omega)] at h159)
          refine z_aload_n 163 dX10_counts_162 rfl rfl ?_
          refine gX10_141 166 rfl dX10_counts_163 rfl ?_
          rw [hlc]
          refine z_goto 170 dX10_counts_166 rfl ?_
          refine z_ri dX10_counts_170 rfl ?_
          first
            | exact ⟨by rw [h135]; rfl, rfl⟩
            | exact ⟨by rw [h147]; rfl, rfl⟩
            | exact ⟨by rw [h159]; rfl, rfl⟩
            | exact ⟨by rw [hm h135 h147 h159], rfl⟩
      · (try rw [nI_eq (by omega) (by omega)] at h147)
        refine z_aload_n 151 dX10_counts_150 rfl rfl ?_
        refine gX10_138 154 rfl dX10_counts_151 rfl ?_
        rw [hpm]
        refine z_goto 170 dX10_counts_154 rfl ?_
        refine z_ri dX10_counts_170 rfl ?_
        first
          | exact ⟨by rw [h135]; rfl, rfl⟩
          | exact ⟨by rw [h147]; rfl, rfl⟩
          | exact ⟨by rw [h159]; rfl, rfl⟩
          | exact ⟨by rw [hm h135 h147 h159], rfl⟩
    · (try rw [nI_eq0 (by omega)] at h135)
      refine z_aload_n 139 dX10_counts_138 rfl rfl ?_
      refine z_cVI0 142 (tX10_words (by assumption)) kX10_words dX10_counts_139 rfl lX10_144 (by first | assumption | rfl) (Nat.le_of_ble_eq_true rfl) ?_
      rintro _ _ ⟨e1, e2⟩
      replace e1 := e1.symm
      replace e2 := e2.symm
      subst e1
      subst e2
      refine z_goto 170 dX10_counts_142 rfl ?_
      refine z_ri dX10_counts_170 rfl ?_
      first
        | exact ⟨by rw [h135]; rfl, rfl⟩
        | exact ⟨by rw [h147]; rfl, rfl⟩
        | exact ⟨by rw [h159]; rfl, rfl⟩
        | exact ⟨by rw [hm h135 h147 h159], rfl⟩
  have at104 : ∀ y, At E mX10_counts (d + 2) (qI fun x τ => x = nI (ctV S j) ∧ τ = σ) 104 [some (zr E 102), some (.int (nI j)), some (.int (nI (cbF S j 8))), y] [] σ := by
    intro y
    by_cases h5 : j = 5
    · have loop : ∀ i, i ≤ sLc S → At E mX10_counts (d + 2) (qI fun x τ => x = nI (ctV S j) ∧ τ = σ) 106 [some (zr E 102), some (.int (nI j)), some (.int (nI (cbF S j 8 + gls S i))), some (.int (nI i))] [] σ := by
        refine z_up (fun i hi ih => ?_)
        by_cases hie : i = sLc S
        · subst hie
          refine z_iload_n 107 dX10_counts_106 rfl rfl ?_
          refine z_aload_n 108 dX10_counts_107 rfl rfl ?_
          refine gX10_141 111 rfl dX10_counts_108 rfl ?_
          rw [hlc]
          refine z_icmp_ge 134 114 dX10_counts_111 (by decide) rfl (fun h111 => ?_) (fun h111 => ?_)
          · (try rw [nI_leI (by omega) (by omega)] at h111)
            exact fin _ _ (fun a b c => by rw [ct_eq hW hj a b c, if_pos h5])
          · (try rw [nI_leI (by omega) (by omega)] at h111)
            omega
        · have hil : i < sLc S := by omega
          have hih := ih (i + 1) (by omega) (by omega)
          have hg : gi σ 124 (12 * i + 0) = nI (if (sLf S i).1 = true then 1 else 0) := by
            refine (hX.2.2.2.2.1.2 i hil).1.trans ?_
            show bI (sLf S i).1 = _
            cases (sLf S i).1 <;> rfl
          have er : cbF S j 8 + gls S (i + 1) = cbF S j 8 + gls S i + if (sLf S i).1 = true then 1 else 0 := (Nat.add_assoc _ _ _).symm
          rw [er] at hih
          refine z_iload_n 107 dX10_counts_106 rfl rfl ?_
          refine z_aload_n 108 dX10_counts_107 rfl rfl ?_
          refine gX10_141 111 rfl dX10_counts_108 rfl ?_
          rw [hlc]
          refine z_icmp_ge 134 114 dX10_counts_111 (by decide) rfl (fun h111 => ?_) (fun h111 => ?_)
          · (try rw [nI_leI (by omega) (by omega)] at h111)
            omega
          · (try rw [nI_leI (by omega) (by omega)] at h111)
            refine z_iload_n 115 dX10_counts_114 rfl rfl ?_
            refine z_iconst 116 (v := nI 5) dX10_counts_115 rfl rfl ?_
            refine z_icmp_ne 134 119 dX10_counts_116 (by decide) rfl (fun h116 => ?_) (fun h116 => ?_)
            · (try rw [nI_eq (by omega) (by omega)] at h116)
              omega
            · (try rw [nI_eq (by omega) (by omega)] at h116)
              refine z_iload_n 120 dX10_counts_119 rfl rfl ?_
              refine z_aload_n 121 dX10_counts_120 rfl rfl ?_
              refine z_iload_n 122 dX10_counts_121 rfl rfl ?_
              refine z_iconst 123 (v := nI 0) dX10_counts_122 rfl rfl ?_
              refine z_cVI2 126 (tX10_leafTells (by omega) (by omega)) kX10_leafTells dX10_counts_123 rfl lX10_304 (by first | assumption | rfl) (Nat.le_of_ble_eq_true rfl) ?_
              rintro _ _ ⟨e1, e2⟩
              replace e1 := e1.symm
              replace e2 := e2.symm
              subst e1
              subst e2
              rw [hg]
              refine z_iadd 127 dX10_counts_126 rfl ?_
              rw [nI_add]
              refine zs_istore_n_2_4 128 rfl dX10_counts_127 rfl rfl ?_
              refine zs_iinc_3_4_1 131 rfl dX10_counts_128 rfl rfl ?_
              rw [nI_add]
              refine z_goto 106 dX10_counts_131 rfl ?_
              exact hih
      refine z_iconst 105 (v := nI 0) dX10_counts_104 rfl rfl ?_
      refine zs_istore_n_3_4 106 rfl dX10_counts_105 rfl rfl ?_
      exact loop 0 (Nat.zero_le _)
    · refine z_iconst 105 (v := nI 0) dX10_counts_104 rfl rfl ?_
      refine zs_istore_n_3_4 106 rfl dX10_counts_105 rfl rfl ?_
      refine z_iload_n 107 dX10_counts_106 rfl rfl ?_
      refine z_aload_n 108 dX10_counts_107 rfl rfl ?_
      refine gX10_141 111 rfl dX10_counts_108 rfl ?_
      rw [hlc]
      refine z_icmp_ge 134 114 dX10_counts_111 (by decide) rfl (fun h111 => ?_) (fun h111 => ?_)
      · (try rw [nI_leI (by omega) (by omega)] at h111)
        exact fin _ _ (fun a b c => by rw [ct_eq hW hj a b c, if_neg h5, Nat.add_zero])
      · (try rw [nI_leI (by omega) (by omega)] at h111)
        refine z_iload_n 115 dX10_counts_114 rfl rfl ?_
        refine z_iconst 116 (v := nI 5) dX10_counts_115 rfl rfl ?_
        refine z_icmp_ne 134 119 dX10_counts_116 (by decide) rfl (fun h116 => ?_) (fun h116 => ?_)
        · (try rw [nI_eq (by omega) (by omega)] at h116)
          exact fin _ _ (fun a b c => by rw [ct_eq hW hj a b c, if_neg h5, Nat.add_zero])
        · (try rw [nI_eq (by omega) (by omega)] at h116)
          omega
  have loop : ∀ i, i ≤ 8 → At E mX10_counts (d + 2) (qI fun x τ => x = nI (ctV S j) ∧ τ = σ) 4 [some (zr E 102), some (.int (nI j)), some (.int (nI (cbF S j i))), some (.int (nI i))] [] σ := by
    refine z_up (fun i hi ih => ?_)
    by_cases hie : i = 8
    · subst hie
      refine z_iload_n 5 dX10_counts_4 rfl rfl ?_
      refine z_bipush 7 (v := nI 8) dX10_counts_5 rfl rfl ?_
      refine z_icmp_ge 104 10 dX10_counts_7 (by decide) rfl (fun h7 => ?_) (fun h7 => ?_)
      · (try rw [nI_leI (by omega) (by omega)] at h7)
        exact at104 _
      · (try rw [nI_leI (by omega) (by omega)] at h7)
        omega
    · have hi8 : i < 8 := by omega
      have hih := ih (i + 1) (by omega) (by omega)
      have yes : cb S j i → At E mX10_counts (d + 2) (qI fun x τ => x = nI (ctV S j) ∧ τ = σ) 91 [some (zr E 102), some (.int (nI j)), some (.int (nI (cbF S j i))), some (.int (nI i))] [.int (nI (cbF S j i))] σ := by
        intro hc
        rw [cbF_y hc] at hih
        refine z_iconst 92 (v := nI 1) dX10_counts_91 rfl rfl ?_
        refine z_goto 96 dX10_counts_92 rfl ?_
        refine z_iadd 97 dX10_counts_96 rfl ?_
        rw [nI_add]
        refine zs_istore_n_2_4 98 rfl dX10_counts_97 rfl rfl ?_
        refine zs_iinc_3_4_1 101 rfl dX10_counts_98 rfl rfl ?_
        rw [nI_add]
        refine z_goto 4 dX10_counts_101 rfl ?_
        exact hih
      have no : ¬ cb S j i → At E mX10_counts (d + 2) (qI fun x τ => x = nI (ctV S j) ∧ τ = σ) 95 [some (zr E 102), some (.int (nI j)), some (.int (nI (cbF S j i))), some (.int (nI i))] [.int (nI (cbF S j i))] σ := by
        intro hc
        rw [cbF_n hc] at hih
        refine z_iconst 96 (v := nI 0) dX10_counts_95 rfl rfl ?_
        refine z_iadd 97 dX10_counts_96 rfl ?_
        rw [nI_add]
        refine zs_istore_n_2_4 98 rfl dX10_counts_97 rfl rfl ?_
        refine zs_iinc_3_4_1 101 rfl dX10_counts_98 rfl rfl ?_
        rw [nI_add]
        refine z_goto 4 dX10_counts_101 rfl ?_
        exact hih
      have at70 : ¬ (j = 6 ∧ i < 6 ∧ ¬ sR S i = none) → ¬ (j = 7 ∧ i < 4 ∧ ¬ sT S i = none) → ¬ (j = 1 ∧ i < 2 ∧ cnt S i) → At E mX10_counts (d + 2) (qI fun x τ => x = nI (ctV S j) ∧ τ = σ) 70 [some (zr E 102), some (.int (nI j)), some (.int (nI (cbF S j i))), some (.int (nI i))] [.int (nI (cbF S j i))] σ := by
        intro c1 c2 c3
        refine z_iload_n 71 dX10_counts_70 rfl rfl ?_
        refine z_iconst 72 (v := nI 3) dX10_counts_71 rfl rfl ?_
        refine z_icmp_ne 95 75 dX10_counts_72 (by decide) rfl (fun h72 => ?_) (fun h72 => ?_)
        · (try rw [nI_eq (by omega) (by omega)] at h72)
          exact no (fun z => by
            rcases z with z | z | z | z
            · exact c1 z
            · exact c2 z
            · exact c3 z
            · first | (have := z.1; omega) | (have := z.2.1; omega) | exact h88 z.2.2)
        · (try rw [nI_eq (by omega) (by omega)] at h72)
          refine z_iload_n 76 dX10_counts_75 rfl rfl ?_
          refine z_aload_n 77 dX10_counts_76 rfl rfl ?_
          refine gX10_138 80 rfl dX10_counts_77 rfl ?_
          rw [hpm]
          refine z_icmp_ge 95 83 dX10_counts_80 (by decide) rfl (fun h80 => ?_) (fun h80 => ?_)
          · (try rw [nI_leI (by omega) (by omega)] at h80)
            exact no (fun z => by
              rcases z with z | z | z | z
              · exact c1 z
              · exact c2 z
              · exact c3 z
              · first | (have := z.1; omega) | (have := z.2.1; omega) | exact h88 z.2.2)
          · (try rw [nI_leI (by omega) (by omega)] at h80)
            refine z_aload_n 84 dX10_counts_83 rfl rfl ?_
            refine z_iload_n 85 dX10_counts_84 rfl rfl ?_
            refine z_cVI1 88 (tX10_isSloppy (by omega) (hX.py (show i < sPc S by omega)) (plOK hW (show i < sPc S by omega)).1) kX10_isSloppy dX10_counts_85 rfl lX10_168 (by first | assumption | rfl) (Nat.le_of_ble_eq_true rfl) ?_
            rintro _ _ ⟨e1, e2⟩
            replace e1 := e1.symm
            replace e2 := e2.symm
            subst e1
            subst e2
            refine z_ifb_eq 95 91 dX10_counts_88 (by decide) rfl (fun h88 => ?_) (fun h88 => ?_)
            · exact no (fun z => by
                rcases z with z | z | z | z
                · exact c1 z
                · exact c2 z
                · exact c3 z
                · first | (have := z.1; omega) | (have := z.2.1; omega) | exact h88 z.2.2)
            · exact yes (Or.inr (Or.inr (Or.inr ⟨by omega, by omega, h88⟩)))
      have at52 : ¬ (j = 6 ∧ i < 6 ∧ ¬ sR S i = none) → ¬ (j = 7 ∧ i < 4 ∧ ¬ sT S i = none) → At E mX10_counts (d + 2) (qI fun x τ => x = nI (ctV S j) ∧ τ = σ) 52 [some (zr E 102), some (.int (nI j)), some (.int (nI (cbF S j i))), some (.int (nI i))] [.int (nI (cbF S j i))] σ := by
        intro c1 c2
        refine z_iload_n 53 dX10_counts_52 rfl rfl ?_
        refine z_iconst 54 (v := nI 1) dX10_counts_53 rfl rfl ?_
        refine z_icmp_ne 70 57 dX10_counts_54 (by decide) rfl (fun h54 => ?_) (fun h54 => ?_)
        · (try rw [nI_eq (by omega) (by omega)] at h54)
          exact at70 c1 c2 (fun z => by first | (have := z.1; omega) | (have := z.2.1; omega) | exact h67 z.2.2)
        · (try rw [nI_eq (by omega) (by omega)] at h54)
          refine z_iload_n 58 dX10_counts_57 rfl rfl ?_
          refine z_iconst 59 (v := nI 2) dX10_counts_58 rfl rfl ?_
          refine z_icmp_ge 70 62 dX10_counts_59 (by decide) rfl (fun h59 => ?_) (fun h59 => ?_)
          · (try rw [nI_leI (by omega) (by omega)] at h59)
            exact at70 c1 c2 (fun z => by first | (have := z.1; omega) | (have := z.2.1; omega) | exact h67 z.2.2)
          · (try rw [nI_leI (by omega) (by omega)] at h59)
            refine z_aload_n 63 dX10_counts_62 rfl rfl ?_
            refine z_iload_n 64 dX10_counts_63 rfl rfl ?_
            refine z_cVI1 67 (tX10_isLand (by assumption) (by assumption) (by omega)) kX10_isLand dX10_counts_64 rfl lX10_148 (by first | assumption | rfl) (Nat.le_of_ble_eq_true rfl) ?_
            rintro _ _ ⟨e1, e2⟩
            replace e1 := e1.symm
            replace e2 := e2.symm
            subst e1
            subst e2
            refine z_ifb_ne 91 70 dX10_counts_67 (by decide) rfl (fun h67 => ?_) (fun h67 => ?_)
            · exact yes (Or.inr (Or.inr (Or.inl ⟨by omega, by omega, h67⟩)))
            · exact at70 c1 c2 (fun z => by first | (have := z.1; omega) | (have := z.2.1; omega) | exact h67 z.2.2)
      have at32 : ¬ (j = 6 ∧ i < 6 ∧ ¬ sR S i = none) → At E mX10_counts (d + 2) (qI fun x τ => x = nI (ctV S j) ∧ τ = σ) 32 [some (zr E 102), some (.int (nI j)), some (.int (nI (cbF S j i))), some (.int (nI i))] [.int (nI (cbF S j i))] σ := by
        intro c1
        refine z_iload_n 33 dX10_counts_32 rfl rfl ?_
        refine z_bipush 35 (v := nI 7) dX10_counts_33 rfl rfl ?_
        refine z_icmp_ne 52 38 dX10_counts_35 (by decide) rfl (fun h35 => ?_) (fun h35 => ?_)
        · (try rw [nI_eq (by omega) (by omega)] at h35)
          exact at52 c1 (fun z => by first | (have := z.1; omega) | (have := z.2.1; omega) | exact z.2.2 ((mSh.neg (by decide) (hX.2.1 i (by omega))).mp (Int32.not_le.mp h49)))
        · (try rw [nI_eq (by omega) (by omega)] at h35)
          refine z_iload_n 39 dX10_counts_38 rfl rfl ?_
          refine z_iconst 40 (v := nI 4) dX10_counts_39 rfl rfl ?_
          refine z_icmp_ge 52 43 dX10_counts_40 (by decide) rfl (fun h40 => ?_) (fun h40 => ?_)
          · (try rw [nI_leI (by omega) (by omega)] at h40)
            exact at52 c1 (fun z => by first | (have := z.1; omega) | (have := z.2.1; omega) | exact z.2.2 ((mSh.neg (by decide) (hX.2.1 i (by omega))).mp (Int32.not_le.mp h49)))
          · (try rw [nI_leI (by omega) (by omega)] at h40)
            refine z_aload_n 44 dX10_counts_43 rfl rfl ?_
            refine gX10_26 47 rfl dX10_counts_44 rfl ?_
            refine z_iload_n 48 dX10_counts_47 rfl rfl ?_
            refine z_ialdn 49 dX10_counts_48 rfl (by first | assumption | rfl) (by omega) ?_
            refine z_if_ge 91 52 dX10_counts_49 (by decide) rfl (fun h49 => ?_) (fun h49 => ?_)
            · exact yes (Or.inr (Or.inl ⟨by omega, by omega, fun z => Int32.not_lt.mpr h49 ((mSh.neg (by decide) (hX.2.1 i (by omega))).mpr z)⟩))
            · exact at52 c1 (fun z => by first | (have := z.1; omega) | (have := z.2.1; omega) | exact z.2.2 ((mSh.neg (by decide) (hX.2.1 i (by omega))).mp (Int32.not_le.mp h49)))
      refine z_iload_n 5 dX10_counts_4 rfl rfl ?_
      refine z_bipush 7 (v := nI 8) dX10_counts_5 rfl rfl ?_
      refine z_icmp_ge 104 10 dX10_counts_7 (by decide) rfl (fun h7 => ?_) (fun h7 => ?_)
      · (try rw [nI_leI (by omega) (by omega)] at h7)
        omega
      · (try rw [nI_leI (by omega) (by omega)] at h7)
        refine z_iload_n 11 dX10_counts_10 rfl rfl ?_
        refine z_iload_n 12 dX10_counts_11 rfl rfl ?_
        refine z_bipush 14 (v := nI 6) dX10_counts_12 rfl rfl ?_
        refine z_icmp_ne 32 17 dX10_counts_14 (by decide) rfl (fun h14 => ?_) (fun h14 => ?_)
        · (try rw [nI_eq (by omega) (by omega)] at h14)
          exact at32 (fun z => by first | (have := z.1; omega) | (have := z.2.1; omega) | exact z.2.2 ((mSh.neg (by decide) (hX.1 i (by omega))).mp (Int32.not_le.mp h29)))
        · (try rw [nI_eq (by omega) (by omega)] at h14)
          refine z_iload_n 18 dX10_counts_17 rfl rfl ?_
          refine z_bipush 20 (v := nI 6) dX10_counts_18 rfl rfl ?_
          refine z_icmp_ge 32 23 dX10_counts_20 (by decide) rfl (fun h20 => ?_) (fun h20 => ?_)
          · (try rw [nI_leI (by omega) (by omega)] at h20)
            exact at32 (fun z => by first | (have := z.1; omega) | (have := z.2.1; omega) | exact z.2.2 ((mSh.neg (by decide) (hX.1 i (by omega))).mp (Int32.not_le.mp h29)))
          · (try rw [nI_leI (by omega) (by omega)] at h20)
            refine z_aload_n 24 dX10_counts_23 rfl rfl ?_
            refine gX10_17 27 rfl dX10_counts_24 rfl ?_
            refine z_iload_n 28 dX10_counts_27 rfl rfl ?_
            refine z_ialdn 29 dX10_counts_28 rfl (by first | assumption | rfl) (by omega) ?_
            refine z_if_ge 91 32 dX10_counts_29 (by decide) rfl (fun h29 => ?_) (fun h29 => ?_)
            · exact yes (Or.inl ⟨by omega, by omega, fun z => Int32.not_lt.mpr h29 ((mSh.neg (by decide) (hX.1 i (by omega))).mpr z)⟩)
            · exact at32 (fun z => by first | (have := z.1; omega) | (have := z.2.1; omega) | exact z.2.2 ((mSh.neg (by decide) (hX.1 i (by omega))).mp (Int32.not_le.mp h29)))
  refine z_iconst 1 (v := nI 0) dX10_counts_0 rfl rfl ?_
  refine zs_istore_n_2_4 2 rfl dX10_counts_1 rfl rfl ?_
  refine z_iconst 3 (v := nI 0) dX10_counts_2 rfl rfl ?_
  refine zs_istore_n_3_4 4 rfl dX10_counts_3 rfl rfl ?_
  exact loop 0 (Nat.zero_le _)
set_option maxRecDepth 20000 in
theorem tX10_count {E : zE} {d : Nat} {σ : zM} {S : sS} {w : Int32} (hW : WF S) (hX : RM S σ) : Ret E mX10_count (d + 3) [zr E 102, .int w] σ (qM σ (spCount S w)) := by
  by_cases hA : inN w 8
  · have e0 : spCount S w = _ := if_pos hA
    have hA' := hA
    obtain ⟨j, hj, rfl⟩ := inN_of hA
    rw [zx_nI (by omega)] at e0
    refine Ret.of [some (zr E 102), some (.int (nI j))] (by decide +kernel) (Nat.le_of_ble_eq_true rfl) rfl ?_
    refine z_iload_n 1 dX10_count_0 rfl rfl ?_
    refine z_iconst 2 (v := nI 0) dX10_count_1 rfl rfl ?_
    refine z_bipush 4 (v := nI 7) dX10_count_2 rfl rfl ?_
    refine z_cSI3 7 (tX10_in) kX10_in dX10_count_4 rfl lX10_91 (Nat.le_of_ble_eq_true rfl) ?_
    rintro _ _ ⟨e1, e2⟩
    replace e1 := e1.symm
    replace e2 := e2.symm
    subst e1
    subst e2
    rw [in_k (by decide)]
    refine z_ifb_eq 18 10 dX10_count_7 (by decide) rfl (fun h7 => ?_) (fun h7 => ?_)
    · exact absurd hA' h7
    · refine z_aload_n 11 dX10_count_10 rfl rfl ?_
      refine z_iload_n 12 dX10_count_11 rfl rfl ?_
      refine z_cVI1 15 (tX10_counts hW hX hj) kX10_counts dX10_count_12 rfl lX10_332 (by first | assumption | rfl) (Nat.le_of_ble_eq_true rfl) ?_
      rintro _ _ ⟨e1, e2⟩
      replace e1 := e1.symm
      replace e2 := e2.symm
      subst e1
      subst e2
      refine z_goto 19 dX10_count_15 rfl ?_
      refine z_ri dX10_count_19 rfl ?_
      exact qm0 e0 hX Fr.rf
  · refine Ret.of [some (zr E 102), some (.int w)] (by decide +kernel) (Nat.le_of_ble_eq_true rfl) rfl ?_
    refine z_iload_n 1 dX10_count_0 rfl rfl ?_
    refine z_iconst 2 (v := nI 0) dX10_count_1 rfl rfl ?_
    refine z_bipush 4 (v := nI 7) dX10_count_2 rfl rfl ?_
    refine z_cSI3 7 (tX10_in) kX10_in dX10_count_4 rfl lX10_91 (Nat.le_of_ble_eq_true rfl) ?_
    rintro _ _ ⟨e1, e2⟩
    replace e1 := e1.symm
    replace e2 := e2.symm
    subst e1
    subst e2
    rw [in_k (by decide)]
    refine z_ifb_eq 18 10 dX10_count_7 (by decide) rfl (fun h7 => ?_) (fun h7 => ?_)
    · refine z_iconst 19 (v := (-1)) dX10_count_18 rfl rfl ?_
      refine z_ri dX10_count_19 rfl ?_
      exact qm0 (if_neg hA) hX Fr.rf
    · exact absurd h7 hA
