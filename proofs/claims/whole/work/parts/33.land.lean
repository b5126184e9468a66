/-! land -/
theorem fsum_comm (f : Nat → Nat → Nat) (m : Nat) : ∀ n, fsum (fun i => fsum (fun j => f i j) m) n = fsum (fun j => fsum (fun i => f i j) n) m := by
  intro n
  induction n with
  | zero => exact (fsum_zero m).symm
  | succ n ih =>
    show fsum (fun i => fsum (fun j => f i j) m) n + fsum (fun j => f n j) m = fsum (fun j => fsum (fun i => f i j) n + f n j) m
    rw [fsum_add, ih]
def lSum (u : Nat → Nat → Nat) (bw n : Nat) (g : Nat → Nat) : Nat := fsum (fun w => fsum (fun i => u w (g i)) n) bw
theorem lSum_le {u : Nat → Nat → Nat} {bw n : Nat} {g : Nat → Nat} (h8 : bw ≤ 8) (hP : PtsOK n g) (hu : ∀ w, w < bw → ∀ p, p < 10 → u w p ≤ 9) : lSum u bw n g ≤ 432 := by
  have h1 : lSum u bw n g ≤ 54 * bw := fsum_bd bw (fun w hw => by
    have h2 : fsum (fun i => u w (g i)) n ≤ 9 * n := fsum_bd n (fun i hi => hu w hw _ (hP.2.2 i hi).1)
    have := hP.2.1
    omega)
  omega
set_option maxRecDepth 20000 in
theorem tX1_usualInAll {E : zE} {d : Nat} {σ : zM} {a b bw n : Nat} {u : Nat → Nat → Nat} {g : Nat → Nat} (ha : (kd a).1 = 2) (ha1 : kd (a + 1) = (11, 6)) (hb : (kd b).1 = 1) (hb1 : kd (b + 1) = (11, 80)) (hB : Bx σ b bw u) (hD : DrG σ a n g) (hPt : PtsOK n g) : Ret E mX1_usualInAll (d + 1) [zr E b, zr E a] σ (qI fun x τ => x = nI (lSum u bw n g) ∧ τ = σ) := by
  have h8 := hB.2.1
  have hw1 : gi σ b 1 = nI bw := hB.1
  have hn1 : gi σ a 1 = nI n := hD.1
  have n6 := hPt.2.1
  refine Ret.of [some (zr E b), some (zr E a), none, none, none] (by decide +kernel) (Nat.le_of_ble_eq_true rfl) rfl ?_
  have outer : ∀ i, i ≤ bw → ∀ y, At E mX1_usualInAll (d + 1) (qI fun x τ => x = nI (lSum u bw n g) ∧ τ = σ) 4 [some (zr E b), some (zr E a), some (.int (nI (lSum u i n g))), some (.int (nI i)), y] [] σ := by
    refine z_up (fun i hi oh y => ?_)
    by_cases hie : i = bw
    · subst hie
      refine z_iload_n 5 dX1_usualInAll_4 rfl rfl ?_
      refine z_aload_n 6 dX1_usualInAll_5 rfl rfl ?_
      refine gX1_15 9 rfl dX1_usualInAll_6 rfl (by first | assumption | rfl) ?_
      rw [hw1]
      refine z_icmp_ge 51 12 dX1_usualInAll_9 (by decide) rfl (fun h9 => ?_) (fun h9 => ?_)
      · (try rw [nI_leI (by omega) (by omega)] at h9)
        refine z_iload_n 52 dX1_usualInAll_51 rfl rfl ?_
        refine z_ri dX1_usualInAll_52 rfl ?_
        exact ⟨rfl, rfl⟩
      · (try rw [nI_leI (by omega) (by omega)] at h9)
        omega
    · have hil : i < bw := by omega
      have inner : ∀ j, j ≤ n → At E mX1_usualInAll (d + 1) (qI fun x τ => x = nI (lSum u bw n g) ∧ τ = σ) 15 [some (zr E b), some (zr E a), some (.int (nI (lSum u i n g + fsum (fun k => u i (g k)) j))), some (.int (nI i)), some (.int (nI j))] [] σ := by
        refine z_up (fun j hj ih => ?_)
        by_cases hje : j = n
        · subst hje
          refine z_iload 17 dX1_usualInAll_15 rfl rfl ?_
          refine z_aload_n 18 dX1_usualInAll_17 rfl rfl ?_
          refine gX1_32 21 rfl dX1_usualInAll_18 rfl (by first | assumption | rfl) ?_
          rw [hn1]
          refine z_icmp_ge 45 24 dX1_usualInAll_21 (by decide) rfl (fun h21 => ?_) (fun h21 => ?_)
          · (try rw [nI_leI (by omega) (by omega)] at h21)
            refine zs_iinc_3_5_1 48 rfl dX1_usualInAll_45 rfl rfl ?_
            rw [nI_add]
            refine z_goto 4 dX1_usualInAll_48 rfl ?_
            exact oh (i + 1) (by omega) (by omega) _
          · (try rw [nI_leI (by omega) (by omega)] at h21)
            omega
        · have hjl : j < n := by omega
          have hg := hD.2 j hjl
          have hg10 := (hPt.2.2 j hjl).1
          have hz : uz bw u i (g j) = u i (g j) := if_pos hil
          refine z_iload 17 dX1_usualInAll_15 rfl rfl ?_
          refine z_aload_n 18 dX1_usualInAll_17 rfl rfl ?_
          refine gX1_32 21 rfl dX1_usualInAll_18 rfl (by first | assumption | rfl) ?_
          rw [hn1]
          refine z_icmp_ge 45 24 dX1_usualInAll_21 (by decide) rfl (fun h21 => ?_) (fun h21 => ?_)
          · (try rw [nI_leI (by omega) (by omega)] at h21)
            omega
          · (try rw [nI_leI (by omega) (by omega)] at h21)
            refine z_iload_n 25 dX1_usualInAll_24 rfl rfl ?_
            refine z_aload_n 26 dX1_usualInAll_25 rfl rfl ?_
            refine z_iload_n 27 dX1_usualInAll_26 rfl rfl ?_
            refine z_aload_n 28 dX1_usualInAll_27 rfl rfl ?_
            refine gX1_35 31 rfl dX1_usualInAll_28 rfl (by first | assumption | rfl) ?_
            refine z_iload 33 dX1_usualInAll_31 rfl rfl ?_
            refine z_ialdn 34 dX1_usualInAll_33 rfl (by first | assumption | rfl) (by omega) ?_
            rw [hg]
            refine z_cVI2 37 (tX1_usualOf hb hb1 hB (by omega) hg10) kX1_usualOf dX1_usualInAll_34 rfl lX1_28 (by first | assumption | rfl) (Nat.le_of_ble_eq_true rfl) ?_
            rintro _ _ ⟨e1, e2⟩
            replace e1 := e1.symm
            replace e2 := e2.symm
            subst e1
            subst e2
            refine z_iadd 38 dX1_usualInAll_37 rfl ?_
            rw [hz, nI_add, Nat.add_assoc]
            refine zs_istore_n_2_5 39 rfl dX1_usualInAll_38 rfl rfl ?_
            refine zs_iinc_4_5_1 42 rfl dX1_usualInAll_39 rfl rfl ?_
            rw [nI_add]
            refine z_goto 15 dX1_usualInAll_42 rfl ?_
            exact ih (j + 1) (by omega) (by omega)
      refine z_iload_n 5 dX1_usualInAll_4 rfl rfl ?_
      refine z_aload_n 6 dX1_usualInAll_5 rfl rfl ?_
      refine gX1_15 9 rfl dX1_usualInAll_6 rfl (by first | assumption | rfl) ?_
      rw [hw1]
      refine z_icmp_ge 51 12 dX1_usualInAll_9 (by decide) rfl (fun h9 => ?_) (fun h9 => ?_)
      · (try rw [nI_leI (by omega) (by omega)] at h9)
        omega
      · (try rw [nI_leI (by omega) (by omega)] at h9)
        refine z_iconst 13 (v := nI 0) dX1_usualInAll_12 rfl rfl ?_
        refine zs_istore_4_5 15 rfl dX1_usualInAll_13 rfl rfl ?_
        exact inner 0 (Nat.zero_le _)
  refine z_iconst 1 (v := nI 0) dX1_usualInAll_0 rfl rfl ?_
  refine zs_istore_n_2_5 2 rfl dX1_usualInAll_1 rfl rfl ?_
  refine z_iconst 3 (v := nI 0) dX1_usualInAll_2 rfl rfl ?_
  refine zs_istore_n_3_5 4 rfl dX1_usualInAll_3 rfl rfl ?_
  exact outer 0 (Nat.zero_le _) _
def lnd (S : sS) (l : Nat) (o : sRow) : Nat := lSum (sUs S l) (sBw S 0) (sSz o) (gOf o)
def spLand (S : sS) (r : Int32) : Int32 × sS := if ¬ inN r 6 then (-1, S) else if ¬ (¬ sR S (zx r) = none ∧ cnt S 0 ∧ cnt S 1) then sFd S 1 else if ¬ sDf (sR S (zx r)) = 0 then sFd S (sDf (sR S (zx r))) else if lnd S 0 (sR S (zx r)) + lnd S 1 (sR S (zx r)) = 0 then sFd S 4 else sTell S (lnd S 0 (sR S (zx r))) (lnd S 0 (sR S (zx r)) + lnd S 1 (sR S (zx r))) (nI 1)
theorem lnd_le {S : sS} (hW : WF S) {l : Nat} (hl : l < 2) (hc : sBw S l = sBw S 0) {o : sRow} (hD : sDf o = 0) : lnd S l o ≤ 432 := by
  obtain ⟨q, hq, hpt, hqg⟩ := sDf0 hD
  have hsz : sSz o = q.1 := by rw [hq]; rfl
  unfold lnd
  rw [hsz]
  exact lSum_le (bw_le hW (by omega)) hpt (fun w hw => ((hW.1 l hl).2 w (by omega)).1)
set_option maxRecDepth 20000 in
theorem tX9_land {E : zE} {d : Nat} {σ : zM} {S : sS} {r : Int32} (hW : WF S) (hX : RX S σ) : Ret E mX9_land (d + 3) [zr E 0, .int r] σ (qX σ (spLand S r)) := by
  have hb8 := bw_le hW (show 0 < 2 by omega)
  by_cases hA : ¬ inN r 6
  · refine Ret.of [some (zr E 0), some (.int r), none, none, none] (by decide +kernel) (Nat.le_of_ble_eq_true rfl) rfl ?_
    refine z_iload_n 1 dX9_land_0 rfl rfl ?_
    refine z_cSI1 4 (tX9_isRow) kX9_isRow dX9_land_1 rfl lX9_83 (Nat.le_of_ble_eq_true rfl) ?_
    rintro _ _ ⟨e1, e2⟩
    replace e1 := e1.symm
    replace e2 := e2.symm
    subst e1
    subst e2
    refine z_ifb_ne 9 7 dX9_land_4 (by decide) rfl (fun h4 => ?_) (fun h4 => ?_)
    · exact absurd h4 hA
    · refine z_iconst 8 (v := (-1)) dX9_land_7 rfl rfl ?_
      refine z_ri dX9_land_8 rfl ?_
      exact qx0 (if_pos hA) hX Fr.rf
  have e0 : spLand S r = _ := if_neg hA
  have hA : inN r 6 := Classical.byContradiction hA
  have hA' := hA
  obtain ⟨r, hr, rfl⟩ := inN_of hA
  rw [zx_nI (by omega)] at e0
  have hk := kd_r hr
  have hk1 := kd_r1 hr
  have hS : Sh σ (24 + 2 * r) 40 (sR S r) := hX.1 r hr
  have hpl := sDf_lt (sR S r)
  refine Ret.of [some (zr E 0), some (.int (nI r)), none, none, none] (by decide +kernel) (Nat.le_of_ble_eq_true rfl) rfl ?_
  by_cases hC : ¬ (¬ sR S r = none ∧ cnt S 0 ∧ cnt S 1)
  · rw [if_pos hC] at e0
    refine z_iload_n 1 dX9_land_0 rfl rfl ?_
    refine z_cSI1 4 (tX9_isRow) kX9_isRow dX9_land_1 rfl lX9_83 (Nat.le_of_ble_eq_true rfl) ?_
    rintro _ _ ⟨e1, e2⟩
    replace e1 := e1.symm
    replace e2 := e2.symm
    subst e1
    subst e2
    refine z_ifb_ne 9 7 dX9_land_4 (by decide) rfl (fun h4 => ?_) (fun h4 => ?_)
    · refine z_aload_n 10 dX9_land_9 rfl rfl ?_
      refine gX9_11 13 rfl dX9_land_10 rfl ?_
      refine z_iload_n 14 dX9_land_13 rfl rfl ?_
      refine z_aald1 15 dX9_land_14 rfl (by omega) ?_
      refine z_cVI0 18 (tX7_isM (by first | assumption | rfl) (by first | assumption | rfl) (by first | assumption | rfl)) kX7_isMissing dX9_land_15 rfl lX9_107 (by first | assumption | rfl) (Nat.le_of_ble_eq_true rfl) ?_
      rintro _ _ ⟨e1, e2⟩
      replace e1 := e1.symm
      replace e2 := e2.symm
      subst e1
      subst e2
      refine z_ifb_ne 37 21 dX9_land_18 (by decide) rfl (fun h18 => ?_) (fun h18 => ?_)
      · refine z_aload_n 38 dX9_land_37 rfl rfl ?_
        refine gX9_39 41 rfl dX9_land_38 rfl ?_
        refine z_iconst 42 (v := nI 1) dX9_land_41 rfl rfl ?_
        refine z_cVI1 45 (tX0_found (by omega) (by omega)) kX0_found dX9_land_42 rfl lX9_87 (by first | assumption | rfl) (Nat.le_of_ble_eq_true rfl) ?_
        rintro _ _ ⟨e1, e2⟩
        replace e1 := e1.symm
        replace e2 := e2.symm
        subst e1
        subst e2
        refine z_ri dX9_land_45 rfl ?_
        exact qxf hW e0 (by decide) hX Fr.rf
      · refine z_aload_n 22 dX9_land_21 rfl rfl ?_
        refine z_iconst 23 (v := nI 0) dX9_land_22 rfl rfl ?_
        refine z_cVI1 26 (tX9_boxCounts (by assumption) (by assumption) (by omega)) kX9_boxCounts dX9_land_23 rfl lX9_162 (by first | assumption | rfl) (Nat.le_of_ble_eq_true rfl) ?_
        rintro _ _ ⟨e1, e2⟩
        replace e1 := e1.symm
        replace e2 := e2.symm
        subst e1
        subst e2
        refine z_ifb_eq 37 29 dX9_land_26 (by decide) rfl (fun h26 => ?_) (fun h26 => ?_)
        · refine z_aload_n 38 dX9_land_37 rfl rfl ?_
          refine gX9_39 41 rfl dX9_land_38 rfl ?_
          refine z_iconst 42 (v := nI 1) dX9_land_41 rfl rfl ?_
          refine z_cVI1 45 (tX0_found (by omega) (by omega)) kX0_found dX9_land_42 rfl lX9_87 (by first | assumption | rfl) (Nat.le_of_ble_eq_true rfl) ?_
          rintro _ _ ⟨e1, e2⟩
          replace e1 := e1.symm
          replace e2 := e2.symm
          subst e1
          subst e2
          refine z_ri dX9_land_45 rfl ?_
          exact qxf hW e0 (by decide) hX Fr.rf
        · refine z_aload_n 30 dX9_land_29 rfl rfl ?_
          refine z_iconst 31 (v := nI 1) dX9_land_30 rfl rfl ?_
          refine z_cVI1 34 (tX9_boxCounts (by assumption) (by assumption) (by omega)) kX9_boxCounts dX9_land_31 rfl lX9_162 (by first | assumption | rfl) (Nat.le_of_ble_eq_true rfl) ?_
          rintro _ _ ⟨e1, e2⟩
          replace e1 := e1.symm
          replace e2 := e2.symm
          subst e1
          subst e2
          refine z_ifb_ne 46 37 dX9_land_34 (by decide) rfl (fun h34 => ?_) (fun h34 => ?_)
          · exact absurd ⟨h18, h26, h34⟩ hC
          · refine z_aload_n 38 dX9_land_37 rfl rfl ?_
            refine gX9_39 41 rfl dX9_land_38 rfl ?_
            refine z_iconst 42 (v := nI 1) dX9_land_41 rfl rfl ?_
            refine z_cVI1 45 (tX0_found (by omega) (by omega)) kX0_found dX9_land_42 rfl lX9_87 (by first | assumption | rfl) (Nat.le_of_ble_eq_true rfl) ?_
            rintro _ _ ⟨e1, e2⟩
            replace e1 := e1.symm
            replace e2 := e2.symm
            subst e1
            subst e2
            refine z_ri dX9_land_45 rfl ?_
            exact qxf hW e0 (by decide) hX Fr.rf
    · exact absurd hA' h4
  rw [if_neg hC] at e0
  have hC : ¬ sR S r = none ∧ cnt S 0 ∧ cnt S 1 := Classical.byContradiction hC
  by_cases hD : sDf (sR S r) = 0
  · rw [if_neg (fun z => z hD)] at e0
    obtain ⟨q, hq, hpt, hqg⟩ := sDf0 hD
    have hsz : sSz (sR S r) = q.1 := by rw [hq]; rfl
    have hS' : Sh σ (24 + 2 * r) 40 (some q) := by rw [← hq]; exact hS
    have ha0 := lnd_le hW (show 0 < 2 by omega) rfl hD
    have ha1 := lnd_le hW (show 1 < 2 by omega) hC.2.2.2 hD
    have q0 : lSum (sUs S 0) (sBw S 0) q.1 (gOf (sR S r)) = lnd S 0 (sR S r) := by unfold lnd; rw [hsz]
    have q1 : lSum (sUs S 1) (sBw S 1) q.1 (gOf (sR S r)) = lnd S 1 (sR S r) := by unfold lnd; rw [hsz, hC.2.2.2]
    refine z_iload_n 1 dX9_land_0 rfl rfl ?_
    refine z_cSI1 4 (tX9_isRow) kX9_isRow dX9_land_1 rfl lX9_83 (Nat.le_of_ble_eq_true rfl) ?_
    rintro _ _ ⟨e1, e2⟩
    replace e1 := e1.symm
    replace e2 := e2.symm
    subst e1
    subst e2
    refine z_ifb_ne 9 7 dX9_land_4 (by decide) rfl (fun h4 => ?_) (fun h4 => ?_)
    · refine z_aload_n 10 dX9_land_9 rfl rfl ?_
      refine gX9_11 13 rfl dX9_land_10 rfl ?_
      refine z_iload_n 14 dX9_land_13 rfl rfl ?_
      refine z_aald1 15 dX9_land_14 rfl (by omega) ?_
      refine z_cVI0 18 (tX7_isM (by first | assumption | rfl) (by first | assumption | rfl) (by first | assumption | rfl)) kX7_isMissing dX9_land_15 rfl lX9_107 (by first | assumption | rfl) (Nat.le_of_ble_eq_true rfl) ?_
      rintro _ _ ⟨e1, e2⟩
      replace e1 := e1.symm
      replace e2 := e2.symm
      subst e1
      subst e2
      refine z_ifb_ne 37 21 dX9_land_18 (by decide) rfl (fun h18 => ?_) (fun h18 => ?_)
      · first | exact absurd h18 hC.1 | exact absurd h18 (Option.some_ne_none _)
      · refine z_aload_n 22 dX9_land_21 rfl rfl ?_
        refine z_iconst 23 (v := nI 0) dX9_land_22 rfl rfl ?_
        refine z_cVI1 26 (tX9_boxCounts (by assumption) (by assumption) (by omega)) kX9_boxCounts dX9_land_23 rfl lX9_162 (by first | assumption | rfl) (Nat.le_of_ble_eq_true rfl) ?_
        rintro _ _ ⟨e1, e2⟩
        replace e1 := e1.symm
        replace e2 := e2.symm
        subst e1
        subst e2
        refine z_ifb_eq 37 29 dX9_land_26 (by decide) rfl (fun h26 => ?_) (fun h26 => ?_)
        · exact absurd hC.2.1 h26
        · refine z_aload_n 30 dX9_land_29 rfl rfl ?_
          refine z_iconst 31 (v := nI 1) dX9_land_30 rfl rfl ?_
          refine z_cVI1 34 (tX9_boxCounts (by assumption) (by assumption) (by omega)) kX9_boxCounts dX9_land_31 rfl lX9_162 (by first | assumption | rfl) (Nat.le_of_ble_eq_true rfl) ?_
          rintro _ _ ⟨e1, e2⟩
          replace e1 := e1.symm
          replace e2 := e2.symm
          subst e1
          subst e2
          refine z_ifb_ne 46 37 dX9_land_34 (by decide) rfl (fun h34 => ?_) (fun h34 => ?_)
          · refine z_aload_n 47 dX9_land_46 rfl rfl ?_
            refine gX9_11 50 rfl dX9_land_47 rfl ?_
            refine z_iload_n 51 dX9_land_50 rfl rfl ?_
            refine z_aald1 52 dX9_land_51 rfl (by omega) ?_
            refine z_cVI0 55 (tX7_drawnFault hk hk1 hS) kX7_drawnFault dX9_land_52 rfl lX9_216 (by first | assumption | rfl) (Nat.le_of_ble_eq_true rfl) ?_
            rintro _ _ ⟨e1, e2⟩
            replace e1 := e1.symm
            replace e2 := e2.symm
            subst e1
            subst e2
            rw [hD]
            refine zs_istore_n_2_5 56 rfl dX9_land_55 rfl rfl ?_
            refine z_iload_n 57 dX9_land_56 rfl rfl ?_
            refine z_if_eq 69 60 dX9_land_57 (by decide) rfl (fun h57 => ?_) (fun h57 => ?_)
            · (try rw [nI_eq0 (by omega)] at h57)
              refine z_aload_n 70 dX9_land_69 rfl rfl ?_
              refine gX9_46 73 rfl dX9_land_70 rfl ?_
              refine z_aload_n 74 dX9_land_73 rfl rfl ?_
              refine gX9_11 77 rfl dX9_land_74 rfl ?_
              refine z_iload_n 78 dX9_land_77 rfl rfl ?_
              refine z_aald1 79 dX9_land_78 rfl (by omega) ?_
              refine z_cVV1 82 (tX2_take (a := 8) (g := gOf (sR S r)) rfl rfl hk hk1 hS' hpt.2.1 hqg) kX2_take dX9_land_79 rfl lX9_219 (by first | assumption | rfl) (Nat.le_of_ble_eq_true rfl) ?_
              rintro τ1 ⟨hF1, hD1⟩
              have hX1 : RX S τ1 := hX.scr hW (hF1.mono (by unfold xS; intros; omega))
              have hF1' : Fr xAll σ τ1 := hF1.mono (by intros; omega)
              refine z_aload_n 83 dX9_land_82 rfl rfl ?_
              refine gX9_20 86 rfl dX9_land_83 rfl ?_
              refine z_iconst 87 (v := nI 0) dX9_land_86 rfl rfl ?_
              refine z_aald3 88 dX9_land_87 rfl (by omega) ?_
              refine z_aload_n 89 dX9_land_88 rfl rfl ?_
              refine gX9_46 92 rfl dX9_land_89 rfl ?_
              refine z_cVI1 95 (tX1_usualInAll (a := 8) (b := 44 + 2 * 0) rfl rfl rfl rfl (hX1.bx hW (by omega)) hD1 hpt) kX1_usualInAll dX9_land_92 rfl lX9_318 (by first | assumption | rfl) (Nat.le_of_ble_eq_true rfl) ?_
              rintro _ _ ⟨e1, e2⟩
              replace e1 := e1.symm
              replace e2 := e2.symm
              subst e1
              subst e2
              refine zs_istore_n_3_5 96 rfl dX9_land_95 rfl rfl ?_
              refine z_iload_n 97 dX9_land_96 rfl rfl ?_
              refine z_aload_n 98 dX9_land_97 rfl rfl ?_
              refine gX9_20 101 rfl dX9_land_98 rfl ?_
              refine z_iconst 102 (v := nI 1) dX9_land_101 rfl rfl ?_
              refine z_aald3 103 dX9_land_102 rfl (by omega) ?_
              refine z_aload_n 104 dX9_land_103 rfl rfl ?_
              refine gX9_46 107 rfl dX9_land_104 rfl ?_
              refine z_cVI1 110 (tX1_usualInAll (a := 8) (b := 44 + 2 * 1) rfl rfl rfl rfl (hX1.bx hW (by omega)) hD1 hpt) kX1_usualInAll dX9_land_107 rfl lX9_318 (by first | assumption | rfl) (Nat.le_of_ble_eq_true rfl) ?_
              rintro _ _ ⟨e1, e2⟩
              replace e1 := e1.symm
              replace e2 := e2.symm
              subst e1
              subst e2
              refine z_iadd 111 dX9_land_110 rfl ?_
              rw [q0, q1, nI_add]
              refine zs_istore_4_5 113 rfl dX9_land_111 rfl rfl ?_
              refine z_iload 115 dX9_land_113 rfl rfl ?_
              refine z_if_ne 129 118 dX9_land_115 (by decide) rfl (fun h115 => ?_) (fun h115 => ?_)
              · (try rw [nI_eq0 (by omega)] at h115)
                rw [if_neg h115] at e0
                refine z_aload_n 130 dX9_land_129 rfl rfl ?_
                refine gX9_39 133 rfl dX9_land_130 rfl ?_
                refine z_iload_n 134 dX9_land_133 rfl rfl ?_
                refine z_i2l 135 dX9_land_134 rfl ?_
                rw [nI_l (by omega)]
                refine z_iload 137 dX9_land_135 rfl rfl ?_
                refine z_i2l 138 dX9_land_137 rfl ?_
                rw [nI_l (by omega)]
                refine z_cVI2 141 (tX0_tell (by omega) (by omega) (by omega)) kX0_tell dX9_land_138 rfl lX9_246 (by first | assumption | rfl) (Nat.le_of_ble_eq_true rfl) ?_
                rintro _ _ ⟨e1, e2⟩
                replace e1 := e1.symm
                replace e2 := e2.symm
                subst e1
                subst e2
                refine z_ri dX9_land_141 rfl ?_
                first | exact qxf hW e0 (by decide) hX1 hF1' | exact qxt hW e0 hX1 hF1'
              · (try rw [nI_eq0 (by omega)] at h115)
                rw [if_pos (by omega)] at e0
                refine z_aload_n 119 dX9_land_118 rfl rfl ?_
                refine gX9_39 122 rfl dX9_land_119 rfl ?_
                refine z_iconst 123 (v := nI 4) dX9_land_122 rfl rfl ?_
                refine z_cVI1 126 (tX0_found (by omega) (by omega)) kX0_found dX9_land_123 rfl lX9_87 (by first | assumption | rfl) (Nat.le_of_ble_eq_true rfl) ?_
                rintro _ _ ⟨e1, e2⟩
                replace e1 := e1.symm
                replace e2 := e2.symm
                subst e1
                subst e2
                refine z_goto 141 dX9_land_126 rfl ?_
                refine z_ri dX9_land_141 rfl ?_
                first | exact qxf hW e0 (by decide) hX1 hF1' | exact qxt hW e0 hX1 hF1'
            · (try rw [nI_eq0 (by omega)] at h57)
              exact absurd rfl h57
          · exact absurd hC.2.2 h34
    · exact absurd hA' h4
  · rw [if_pos hD] at e0
    refine z_iload_n 1 dX9_land_0 rfl rfl ?_
    refine z_cSI1 4 (tX9_isRow) kX9_isRow dX9_land_1 rfl lX9_83 (Nat.le_of_ble_eq_true rfl) ?_
    rintro _ _ ⟨e1, e2⟩
    replace e1 := e1.symm
    replace e2 := e2.symm
    subst e1
    subst e2
    refine z_ifb_ne 9 7 dX9_land_4 (by decide) rfl (fun h4 => ?_) (fun h4 => ?_)
    · refine z_aload_n 10 dX9_land_9 rfl rfl ?_
      refine gX9_11 13 rfl dX9_land_10 rfl ?_
      refine z_iload_n 14 dX9_land_13 rfl rfl ?_
      refine z_aald1 15 dX9_land_14 rfl (by omega) ?_
      refine z_cVI0 18 (tX7_isM (by first | assumption | rfl) (by first | assumption | rfl) (by first | assumption | rfl)) kX7_isMissing dX9_land_15 rfl lX9_107 (by first | assumption | rfl) (Nat.le_of_ble_eq_true rfl) ?_
      rintro _ _ ⟨e1, e2⟩
      replace e1 := e1.symm
      replace e2 := e2.symm
      subst e1
      subst e2
      refine z_ifb_ne 37 21 dX9_land_18 (by decide) rfl (fun h18 => ?_) (fun h18 => ?_)
      · first | exact absurd h18 hC.1 | exact absurd h18 (Option.some_ne_none _)
      · refine z_aload_n 22 dX9_land_21 rfl rfl ?_
        refine z_iconst 23 (v := nI 0) dX9_land_22 rfl rfl ?_
        refine z_cVI1 26 (tX9_boxCounts (by assumption) (by assumption) (by omega)) kX9_boxCounts dX9_land_23 rfl lX9_162 (by first | assumption | rfl) (Nat.le_of_ble_eq_true rfl) ?_
        rintro _ _ ⟨e1, e2⟩
        replace e1 := e1.symm
        replace e2 := e2.symm
        subst e1
        subst e2
        refine z_ifb_eq 37 29 dX9_land_26 (by decide) rfl (fun h26 => ?_) (fun h26 => ?_)
        · exact absurd hC.2.1 h26
        · refine z_aload_n 30 dX9_land_29 rfl rfl ?_
          refine z_iconst 31 (v := nI 1) dX9_land_30 rfl rfl ?_
          refine z_cVI1 34 (tX9_boxCounts (by assumption) (by assumption) (by omega)) kX9_boxCounts dX9_land_31 rfl lX9_162 (by first | assumption | rfl) (Nat.le_of_ble_eq_true rfl) ?_
          rintro _ _ ⟨e1, e2⟩
          replace e1 := e1.symm
          replace e2 := e2.symm
          subst e1
          subst e2
          refine z_ifb_ne 46 37 dX9_land_34 (by decide) rfl (fun h34 => ?_) (fun h34 => ?_)
          · refine z_aload_n 47 dX9_land_46 rfl rfl ?_
            refine gX9_11 50 rfl dX9_land_47 rfl ?_
            refine z_iload_n 51 dX9_land_50 rfl rfl ?_
            refine z_aald1 52 dX9_land_51 rfl (by omega) ?_
            refine z_cVI0 55 (tX7_drawnFault hk hk1 hS) kX7_drawnFault dX9_land_52 rfl lX9_216 (by first | assumption | rfl) (Nat.le_of_ble_eq_true rfl) ?_
            rintro _ _ ⟨e1, e2⟩
            replace e1 := e1.symm
            replace e2 := e2.symm
            subst e1
            subst e2
            refine zs_istore_n_2_5 56 rfl dX9_land_55 rfl rfl ?_
            refine z_iload_n 57 dX9_land_56 rfl rfl ?_
            refine z_if_eq 69 60 dX9_land_57 (by decide) rfl (fun h57 => ?_) (fun h57 => ?_)
            · (try rw [nI_eq0 (by omega)] at h57)
              exact absurd h57 hD
            · (try rw [nI_eq0 (by omega)] at h57)
              refine z_aload_n 61 dX9_land_60 rfl rfl ?_
              refine gX9_39 64 rfl dX9_land_61 rfl ?_
              refine z_iload_n 65 dX9_land_64 rfl rfl ?_
              refine z_cVI1 68 (tX0_found (by omega) hpl) kX0_found dX9_land_65 rfl lX9_87 (by first | assumption | rfl) (Nat.le_of_ble_eq_true rfl) ?_
              rintro _ _ ⟨e1, e2⟩
              replace e1 := e1.symm
              replace e2 := e2.symm
              subst e1
              subst e2
              refine z_ri dX9_land_68 rfl ?_
              exact qxf hW e0 hpl hX Fr.rf
          · exact absurd hC.2.2 h34
    · exact absurd hA' h4
set_option maxRecDepth 20000 in
theorem tX10_land {E : zE} {d : Nat} {σ : zM} {S : sS} {r : Int32} (hW : WF S) (hX : RM S σ) : Ret E mX10_land (d + 3) [zr E 102, .int r] σ (qM σ (spLand S r)) := by
  have hb8 := bw_le hW (show 0 < 2 by omega)
  by_cases hA : ¬ inN r 6
  · refine Ret.of [some (zr E 102), some (.int r), none, none, none, none, none] (by decide +kernel) (Nat.le_of_ble_eq_true rfl) rfl ?_
    refine z_iload_n 1 dX10_land_0 rfl rfl ?_
    refine z_cSI1 4 (tX10_isRow) kX10_isRow dX10_land_1 rfl lX10_95 (Nat.le_of_ble_eq_true rfl) ?_
    rintro _ _ ⟨e1, e2⟩
    replace e1 := e1.symm
    replace e2 := e2.symm
    subst e1
    subst e2
    refine z_ifb_ne 9 7 dX10_land_4 (by decide) rfl (fun h4 => ?_) (fun h4 => ?_)
    · exact absurd h4 hA
    · refine z_iconst 8 (v := (-1)) dX10_land_7 rfl rfl ?_
      refine z_ri dX10_land_8 rfl ?_
      exact qm0 (if_pos hA) hX Fr.rf
  have e0 : spLand S r = _ := if_neg hA
  have hA : inN r 6 := Classical.byContradiction hA
  have hA' := hA
  obtain ⟨r, hr, rfl⟩ := inN_of hA
  rw [zx_nI (by omega)] at e0
  have hS : mSh σ 104 105 r 40 (sR S r) := hX.1 r hr
  have hpl := sDf_lt (sR S r)
  refine Ret.of [some (zr E 102), some (.int (nI r)), none, none, none, none, none] (by decide +kernel) (Nat.le_of_ble_eq_true rfl) rfl ?_
  by_cases hC : ¬ (¬ sR S r = none ∧ cnt S 0 ∧ cnt S 1)
  · rw [if_pos hC] at e0
    refine z_iload_n 1 dX10_land_0 rfl rfl ?_
    refine z_cSI1 4 (tX10_isRow) kX10_isRow dX10_land_1 rfl lX10_95 (Nat.le_of_ble_eq_true rfl) ?_
    rintro _ _ ⟨e1, e2⟩
    replace e1 := e1.symm
    replace e2 := e2.symm
    subst e1
    subst e2
    refine z_ifb_ne 9 7 dX10_land_4 (by decide) rfl (fun h4 => ?_) (fun h4 => ?_)
    · refine z_aload_n 10 dX10_land_9 rfl rfl ?_
      refine gX10_17 13 rfl dX10_land_10 rfl ?_
      refine z_iload_n 14 dX10_land_13 rfl rfl ?_
      refine z_ialdn 15 dX10_land_14 rfl (by first | assumption | rfl) (by omega) ?_
      refine z_if_lt 34 18 dX10_land_15 (by decide) rfl (fun h15 => ?_) (fun h15 => ?_)
      · refine z_aload_n 35 dX10_land_34 rfl rfl ?_
        refine z_iconst 36 (v := nI 1) dX10_land_35 rfl rfl ?_
        refine z_cVI1 39 (tX10_meets (by omega)) kX10_meets dX10_land_36 rfl lX10_99 (by first | assumption | rfl) (Nat.le_of_ble_eq_true rfl) ?_
        rintro _ _ ⟨e1, e2⟩
        replace e1 := e1.symm
        replace e2 := e2.symm
        subst e1
        subst e2
        refine z_ri dX10_land_39 rfl ?_
        exact qmf hW e0 (by decide) hX Fr.rf
      · refine z_aload_n 19 dX10_land_18 rfl rfl ?_
        refine z_iconst 20 (v := nI 0) dX10_land_19 rfl rfl ?_
        refine z_cVI1 23 (tX10_isLand (by assumption) (by assumption) (by omega)) kX10_isLand dX10_land_20 rfl lX10_148 (by first | assumption | rfl) (Nat.le_of_ble_eq_true rfl) ?_
        rintro _ _ ⟨e1, e2⟩
        replace e1 := e1.symm
        replace e2 := e2.symm
        subst e1
        subst e2
        refine z_ifb_eq 34 26 dX10_land_23 (by decide) rfl (fun h23 => ?_) (fun h23 => ?_)
        · refine z_aload_n 35 dX10_land_34 rfl rfl ?_
          refine z_iconst 36 (v := nI 1) dX10_land_35 rfl rfl ?_
          refine z_cVI1 39 (tX10_meets (by omega)) kX10_meets dX10_land_36 rfl lX10_99 (by first | assumption | rfl) (Nat.le_of_ble_eq_true rfl) ?_
          rintro _ _ ⟨e1, e2⟩
          replace e1 := e1.symm
          replace e2 := e2.symm
          subst e1
          subst e2
          refine z_ri dX10_land_39 rfl ?_
          exact qmf hW e0 (by decide) hX Fr.rf
        · refine z_aload_n 27 dX10_land_26 rfl rfl ?_
          refine z_iconst 28 (v := nI 1) dX10_land_27 rfl rfl ?_
          refine z_cVI1 31 (tX10_isLand (by assumption) (by assumption) (by omega)) kX10_isLand dX10_land_28 rfl lX10_148 (by first | assumption | rfl) (Nat.le_of_ble_eq_true rfl) ?_
          rintro _ _ ⟨e1, e2⟩
          replace e1 := e1.symm
          replace e2 := e2.symm
          subst e1
          subst e2
          refine z_ifb_ne 40 34 dX10_land_31 (by decide) rfl (fun h31 => ?_) (fun h31 => ?_)
          · exact absurd ⟨fun z => by rw [z] at hS; exact h15 (by rw [show gi σ 104 r = -9 from hS]; decide), h23, h31⟩ hC
          · refine z_aload_n 35 dX10_land_34 rfl rfl ?_
            refine z_iconst 36 (v := nI 1) dX10_land_35 rfl rfl ?_
            refine z_cVI1 39 (tX10_meets (by omega)) kX10_meets dX10_land_36 rfl lX10_99 (by first | assumption | rfl) (Nat.le_of_ble_eq_true rfl) ?_
            rintro _ _ ⟨e1, e2⟩
            replace e1 := e1.symm
            replace e2 := e2.symm
            subst e1
            subst e2
            refine z_ri dX10_land_39 rfl ?_
            exact qmf hW e0 (by decide) hX Fr.rf
    · exact absurd hA' h4
  rw [if_neg hC] at e0
  have hC : ¬ sR S r = none ∧ cnt S 0 ∧ cnt S 1 := Classical.byContradiction hC
  obtain ⟨q, hq⟩ := Option.ne_none_iff_exists'.mp hC.1
  have hS' : mSh σ 104 105 r 40 (some q) := by rw [← hq]; exact hS
  have hq40 := hS'.1
  by_cases hD : sDf (sR S r) = 0
  · rw [if_neg (fun z => z hD)] at e0
    obtain ⟨q', hq', hpt, hqg⟩ := sDf0 hD
    obtain rfl : q = q' := Option.some.inj (hq.symm.trans hq')
    have hsz : sSz (sR S r) = q.1 := by rw [hq]; rfl
    have n6 := hpt.2.1
    have ha0 := lnd_le hW (show 0 < 2 by omega) rfl hD
    have ha1 := lnd_le hW (show 1 < 2 by omega) hC.2.2.2 hD
    have c1 : sBw S 1 = sBw S 0 := hC.2.2.2
    obtain ⟨g, hg⟩ : ∃ g, g = gOf (sR S r) := ⟨_, rfl⟩
    rw [← hg] at hpt hqg
    obtain ⟨F, hFd⟩ : ∃ F : Nat → Nat → Nat, F = fun l i => fsum (fun w => sUs S l w (g i)) (sBw S 0) := ⟨_, rfl⟩
    have q0 : ∀ l, fsum (F l) q.1 = lnd S l (sR S r) := fun l => by
      unfold lnd lSum
      rw [hsz, ← hg, hFd]
      exact fsum_comm (fun i w => sUs S l w (g i)) _ _
    have hs : gi σ 104 r = nI q.1 := hS'.2.1
    have outer : ∀ i, i ≤ q.1 → ∀ y, At E mX10_land (d + 3) (qM σ (spLand S (nI r))) 60 [some (zr E 102), some (.int (nI r)), some (.int (nI 0)), some (.int (nI (fsum (F 0) i))), some (.int (nI (fsum (F 1) i))), some (.int (nI i)), y] [] σ := by
      refine z_up (fun i hi oh y => ?_)
      by_cases hie : i = q.1
      · subst hie
        rw [q0, q0]
        refine z_iload 62 dX10_land_60 rfl rfl ?_
        refine z_aload_n 63 dX10_land_62 rfl rfl ?_
        refine gX10_17 66 rfl dX10_land_63 rfl ?_
        refine z_iload_n 67 dX10_land_66 rfl rfl ?_
        refine z_ialdn 68 dX10_land_67 rfl (by first | assumption | rfl) (by omega) ?_
        rw [hs]
        refine z_icmp_ge 131 71 dX10_land_68 (by decide) rfl (fun h68 => ?_) (fun h68 => ?_)
        · (try rw [nI_leI (by omega) (by omega)] at h68)
          refine z_iload_n 132 dX10_land_131 rfl rfl ?_
          refine z_iload 134 dX10_land_132 rfl rfl ?_
          refine z_iadd 135 dX10_land_134 rfl ?_
          rw [nI_add]
          refine z_if_ne 146 138 dX10_land_135 (by decide) rfl (fun h135 => ?_) (fun h135 => ?_)
          · (try rw [nI_eq0 (by omega)] at h135)
            rw [if_neg h135] at e0
            refine z_aload_n 147 dX10_land_146 rfl rfl ?_
            refine z_iload_n 148 dX10_land_147 rfl rfl ?_
            refine z_i2l 149 dX10_land_148 rfl ?_
            rw [nI_l (by omega)]
            refine z_iload_n 150 dX10_land_149 rfl rfl ?_
            refine z_iload 152 dX10_land_150 rfl rfl ?_
            refine z_iadd 153 dX10_land_152 rfl ?_
            refine z_i2l 154 dX10_land_153 rfl ?_
            rw [nI_add, nI_l (by omega)]
            refine z_iconst 155 (v := nI 1) dX10_land_154 rfl rfl ?_
            refine z_cVI3 158 (tX10_part (by omega) (by omega) (by omega)) kX10_part dX10_land_155 rfl lX10_248 (by first | assumption | rfl) (Nat.le_of_ble_eq_true rfl) ?_
            rintro _ _ ⟨e1, e2⟩
            replace e1 := e1.symm
            replace e2 := e2.symm
            subst e1
            subst e2
            refine z_ri dX10_land_158 rfl ?_
            first | exact qmf hW e0 (by decide) hX Fr.rf | exact qmt hW e0 hX Fr.rf
          · (try rw [nI_eq0 (by omega)] at h135)
            rw [if_pos (by omega)] at e0
            refine z_aload_n 139 dX10_land_138 rfl rfl ?_
            refine z_iconst 140 (v := nI 4) dX10_land_139 rfl rfl ?_
            refine z_cVI1 143 (tX10_meets (by omega)) kX10_meets dX10_land_140 rfl lX10_99 (by first | assumption | rfl) (Nat.le_of_ble_eq_true rfl) ?_
            rintro _ _ ⟨e1, e2⟩
            replace e1 := e1.symm
            replace e2 := e2.symm
            subst e1
            subst e2
            refine z_goto 158 dX10_land_143 rfl ?_
            refine z_ri dX10_land_158 rfl ?_
            first | exact qmf hW e0 (by decide) hX Fr.rf | exact qmt hW e0 hX Fr.rf
        · (try rw [nI_leI (by omega) (by omega)] at h68)
          omega
      · have hil : i < q.1 := by omega
        have hg10 := (hpt.2.2 i hil).1
        have hri : gi σ 105 (40 * r + i) = nI (g i) := (hS'.2.2 i hil).trans (hqg i hil)
        have inner : ∀ j, j ≤ sBw S 0 → At E mX10_land (d + 3) (qM σ (spLand S (nI r))) 74 [some (zr E 102), some (.int (nI r)), some (.int (nI 0)), some (.int (nI (fsum (F 0) i + fsum (fun w => sUs S 0 w (g i)) j))), some (.int (nI (fsum (F 1) i + fsum (fun w => sUs S 1 w (g i)) j))), some (.int (nI i)), some (.int (nI j))] [] σ := by
          refine z_up (fun j hj ih => ?_)
          by_cases hje : j = sBw S 0
          · subst hje
            have f0 : fsum (F 0) i + fsum (fun w => sUs S 0 w (g i)) (sBw S 0) = fsum (F 0) (i + 1) := by rw [hFd]; rfl
            have f1 : fsum (F 1) i + fsum (fun w => sUs S 1 w (g i)) (sBw S 0) = fsum (F 1) (i + 1) := by rw [hFd]; rfl
            rw [f0, f1]
            refine z_iload 76 dX10_land_74 rfl rfl ?_
            refine z_aload_n 77 dX10_land_76 rfl rfl ?_
            refine z_cVI0 80 (tX10_words (by assumption)) kX10_words dX10_land_77 rfl lX10_144 (by first | assumption | rfl) (Nat.le_of_ble_eq_true rfl) ?_
            rintro _ _ ⟨e1, e2⟩
            replace e1 := e1.symm
            replace e2 := e2.symm
            subst e1
            subst e2
            refine z_icmp_ge 125 83 dX10_land_80 (by decide) rfl (fun h80 => ?_) (fun h80 => ?_)
            · (try rw [nI_leI (by omega) (by omega)] at h80)
              refine zs_iinc_5_7_1 128 rfl dX10_land_125 rfl rfl ?_
              rw [nI_add]
              refine z_goto 60 dX10_land_128 rfl ?_
              exact oh (i + 1) (by omega) (by omega) _
            · (try rw [nI_leI (by omega) (by omega)] at h80)
              omega
          · have hjl : j < sBw S 0 := by omega
            have u0 : gi σ 110 (80 * 0 + 10 * j + g i) = nI (sUs S 0 j (g i)) := (hX.2.2.1 0 (by omega)).2 j hjl _ hg10
            have u1 : gi σ 110 (80 * 1 + 10 * j + g i) = nI (sUs S 1 j (g i)) := (hX.2.2.1 1 (by omega)).2 j (by show j < sBw S 1; omega) _ hg10
            refine z_iload 76 dX10_land_74 rfl rfl ?_
            refine z_aload_n 77 dX10_land_76 rfl rfl ?_
            refine z_cVI0 80 (tX10_words (by assumption)) kX10_words dX10_land_77 rfl lX10_144 (by first | assumption | rfl) (Nat.le_of_ble_eq_true rfl) ?_
            rintro _ _ ⟨e1, e2⟩
            replace e1 := e1.symm
            replace e2 := e2.symm
            subst e1
            subst e2
            refine z_icmp_ge 125 83 dX10_land_80 (by decide) rfl (fun h80 => ?_) (fun h80 => ?_)
            · (try rw [nI_leI (by omega) (by omega)] at h80)
              omega
            · (try rw [nI_leI (by omega) (by omega)] at h80)
              refine z_iload_n 84 dX10_land_83 rfl rfl ?_
              refine z_aload_n 85 dX10_land_84 rfl rfl ?_
              refine z_iconst 86 (v := nI 0) dX10_land_85 rfl rfl ?_
              refine z_iload 88 dX10_land_86 rfl rfl ?_
              refine z_aload_n 89 dX10_land_88 rfl rfl ?_
              refine z_iload_n 90 dX10_land_89 rfl rfl ?_
              refine z_iload 92 dX10_land_90 rfl rfl ?_
              refine z_cVI2 95 (tX10_rowAt (by omega) (by omega)) kX10_rowAt dX10_land_92 rfl lX10_113 (by first | assumption | rfl) (Nat.le_of_ble_eq_true rfl) ?_
              rintro _ _ ⟨e1, e2⟩
              replace e1 := e1.symm
              replace e2 := e2.symm
              subst e1
              subst e2
              rw [hri]
              refine z_cVI3 98 (tX10_use (by omega) (by omega) hg10) kX10_use dX10_land_95 rfl lX10_154 (by first | assumption | rfl) (Nat.le_of_ble_eq_true rfl) ?_
              rintro _ _ ⟨e1, e2⟩
              replace e1 := e1.symm
              replace e2 := e2.symm
              subst e1
              subst e2
              refine z_iadd 99 dX10_land_98 rfl ?_
              rw [u0, nI_add, Nat.add_assoc (fsum (F 0) i)]
              refine zs_istore_n_3_7 100 rfl dX10_land_99 rfl rfl ?_
              refine z_iload 102 dX10_land_100 rfl rfl ?_
              refine z_aload_n 103 dX10_land_102 rfl rfl ?_
              refine z_iconst 104 (v := nI 1) dX10_land_103 rfl rfl ?_
              refine z_iload 106 dX10_land_104 rfl rfl ?_
              refine z_aload_n 107 dX10_land_106 rfl rfl ?_
              refine z_iload_n 108 dX10_land_107 rfl rfl ?_
              refine z_iload 110 dX10_land_108 rfl rfl ?_
              refine z_cVI2 113 (tX10_rowAt (by omega) (by omega)) kX10_rowAt dX10_land_110 rfl lX10_113 (by first | assumption | rfl) (Nat.le_of_ble_eq_true rfl) ?_
              rintro _ _ ⟨e1, e2⟩
              replace e1 := e1.symm
              replace e2 := e2.symm
              subst e1
              subst e2
              rw [hri]
              refine z_cVI3 116 (tX10_use (by omega) (by omega) hg10) kX10_use dX10_land_113 rfl lX10_154 (by first | assumption | rfl) (Nat.le_of_ble_eq_true rfl) ?_
              rintro _ _ ⟨e1, e2⟩
              replace e1 := e1.symm
              replace e2 := e2.symm
              subst e1
              subst e2
              refine z_iadd 117 dX10_land_116 rfl ?_
              rw [u1, nI_add, Nat.add_assoc (fsum (F 1) i)]
              refine zs_istore_4_7 119 rfl dX10_land_117 rfl rfl ?_
              refine zs_iinc_6_7_1 122 rfl dX10_land_119 rfl rfl ?_
              rw [nI_add]
              refine z_goto 74 dX10_land_122 rfl ?_
              exact ih (j + 1) (by omega) (by omega)
        refine z_iload 62 dX10_land_60 rfl rfl ?_
        refine z_aload_n 63 dX10_land_62 rfl rfl ?_
        refine gX10_17 66 rfl dX10_land_63 rfl ?_
        refine z_iload_n 67 dX10_land_66 rfl rfl ?_
        refine z_ialdn 68 dX10_land_67 rfl (by first | assumption | rfl) (by omega) ?_
        rw [hs]
        refine z_icmp_ge 131 71 dX10_land_68 (by decide) rfl (fun h68 => ?_) (fun h68 => ?_)
        · (try rw [nI_leI (by omega) (by omega)] at h68)
          omega
        · (try rw [nI_leI (by omega) (by omega)] at h68)
          refine z_iconst 72 (v := nI 0) dX10_land_71 rfl rfl ?_
          refine zs_istore_6_7 74 rfl dX10_land_72 rfl rfl ?_
          exact inner 0 (Nat.zero_le _)
    refine z_iload_n 1 dX10_land_0 rfl rfl ?_
    refine z_cSI1 4 (tX10_isRow) kX10_isRow dX10_land_1 rfl lX10_95 (Nat.le_of_ble_eq_true rfl) ?_
    rintro _ _ ⟨e1, e2⟩
    replace e1 := e1.symm
    replace e2 := e2.symm
    subst e1
    subst e2
    refine z_ifb_ne 9 7 dX10_land_4 (by decide) rfl (fun h4 => ?_) (fun h4 => ?_)
    · refine z_aload_n 10 dX10_land_9 rfl rfl ?_
      refine gX10_17 13 rfl dX10_land_10 rfl ?_
      refine z_iload_n 14 dX10_land_13 rfl rfl ?_
      refine z_ialdn 15 dX10_land_14 rfl (by first | assumption | rfl) (by omega) ?_
      rw [hs]
      refine z_if_lt 34 18 dX10_land_15 (by decide) rfl (fun h15 => ?_) (fun h15 => ?_)
      · exact absurd h15 (nI_pos (by omega))
      · refine z_aload_n 19 dX10_land_18 rfl rfl ?_
        refine z_iconst 20 (v := nI 0) dX10_land_19 rfl rfl ?_
        refine z_cVI1 23 (tX10_isLand (by assumption) (by assumption) (by omega)) kX10_isLand dX10_land_20 rfl lX10_148 (by first | assumption | rfl) (Nat.le_of_ble_eq_true rfl) ?_
        rintro _ _ ⟨e1, e2⟩
        replace e1 := e1.symm
        replace e2 := e2.symm
        subst e1
        subst e2
        refine z_ifb_eq 34 26 dX10_land_23 (by decide) rfl (fun h23 => ?_) (fun h23 => ?_)
        · exact absurd hC.2.1 h23
        · refine z_aload_n 27 dX10_land_26 rfl rfl ?_
          refine z_iconst 28 (v := nI 1) dX10_land_27 rfl rfl ?_
          refine z_cVI1 31 (tX10_isLand (by assumption) (by assumption) (by omega)) kX10_isLand dX10_land_28 rfl lX10_148 (by first | assumption | rfl) (Nat.le_of_ble_eq_true rfl) ?_
          rintro _ _ ⟨e1, e2⟩
          replace e1 := e1.symm
          replace e2 := e2.symm
          subst e1
          subst e2
          refine z_ifb_ne 40 34 dX10_land_31 (by decide) rfl (fun h31 => ?_) (fun h31 => ?_)
          · refine z_aload_n 41 dX10_land_40 rfl rfl ?_
            refine z_iload_n 42 dX10_land_41 rfl rfl ?_
            refine z_cVI1 45 (tX10_askedDrawn hr hX) kX10_askedDrawn dX10_land_42 rfl lX10_212 (by first | assumption | rfl) (Nat.le_of_ble_eq_true rfl) ?_
            rintro _ _ ⟨e1, e2⟩
            rw [if_pos hD] at e1 e2
            replace e1 := e1.symm
            replace e2 := e2.symm
            subst e1
            subst e2
            refine zs_istore_n_2_7 46 rfl dX10_land_45 rfl rfl ?_
            refine z_iload_n 47 dX10_land_46 rfl rfl ?_
            refine z_if_ge 52 50 dX10_land_47 (by decide) rfl (fun h47 => ?_) (fun h47 => ?_)
            · refine z_iconst 53 (v := nI 0) dX10_land_52 rfl rfl ?_
              refine zs_istore_n_3_7 54 rfl dX10_land_53 rfl rfl ?_
              refine z_iconst 55 (v := nI 0) dX10_land_54 rfl rfl ?_
              refine zs_istore_4_7 57 rfl dX10_land_55 rfl rfl ?_
              refine z_iconst 58 (v := nI 0) dX10_land_57 rfl rfl ?_
              refine zs_istore_5_7 60 rfl dX10_land_58 rfl rfl ?_
              exact outer 0 (Nat.zero_le _) _
            · exact absurd (nI_pos' (by decide)) h47
          · exact absurd hC.2.2 h31
    · exact absurd hA' h4
  · rw [if_pos hD] at e0
    have hs : gi σ 104 r = nI q.1 := hS'.2.1
    refine z_iload_n 1 dX10_land_0 rfl rfl ?_
    refine z_cSI1 4 (tX10_isRow) kX10_isRow dX10_land_1 rfl lX10_95 (Nat.le_of_ble_eq_true rfl) ?_
    rintro _ _ ⟨e1, e2⟩
    replace e1 := e1.symm
    replace e2 := e2.symm
    subst e1
    subst e2
    refine z_ifb_ne 9 7 dX10_land_4 (by decide) rfl (fun h4 => ?_) (fun h4 => ?_)
    · refine z_aload_n 10 dX10_land_9 rfl rfl ?_
      refine gX10_17 13 rfl dX10_land_10 rfl ?_
      refine z_iload_n 14 dX10_land_13 rfl rfl ?_
      refine z_ialdn 15 dX10_land_14 rfl (by first | assumption | rfl) (by omega) ?_
      rw [hs]
      refine z_if_lt 34 18 dX10_land_15 (by decide) rfl (fun h15 => ?_) (fun h15 => ?_)
      · exact absurd h15 (nI_pos (by omega))
      · refine z_aload_n 19 dX10_land_18 rfl rfl ?_
        refine z_iconst 20 (v := nI 0) dX10_land_19 rfl rfl ?_
        refine z_cVI1 23 (tX10_isLand (by assumption) (by assumption) (by omega)) kX10_isLand dX10_land_20 rfl lX10_148 (by first | assumption | rfl) (Nat.le_of_ble_eq_true rfl) ?_
        rintro _ _ ⟨e1, e2⟩
        replace e1 := e1.symm
        replace e2 := e2.symm
        subst e1
        subst e2
        refine z_ifb_eq 34 26 dX10_land_23 (by decide) rfl (fun h23 => ?_) (fun h23 => ?_)
        · exact absurd hC.2.1 h23
        · refine z_aload_n 27 dX10_land_26 rfl rfl ?_
          refine z_iconst 28 (v := nI 1) dX10_land_27 rfl rfl ?_
          refine z_cVI1 31 (tX10_isLand (by assumption) (by assumption) (by omega)) kX10_isLand dX10_land_28 rfl lX10_148 (by first | assumption | rfl) (Nat.le_of_ble_eq_true rfl) ?_
          rintro _ _ ⟨e1, e2⟩
          replace e1 := e1.symm
          replace e2 := e2.symm
          subst e1
          subst e2
          refine z_ifb_ne 40 34 dX10_land_31 (by decide) rfl (fun h31 => ?_) (fun h31 => ?_)
          · refine z_aload_n 41 dX10_land_40 rfl rfl ?_
            refine z_iload_n 42 dX10_land_41 rfl rfl ?_
            refine z_cVI1 45 (tX10_askedDrawn hr hX) kX10_askedDrawn dX10_land_42 rfl lX10_212 (by first | assumption | rfl) (Nat.le_of_ble_eq_true rfl) ?_
            rintro _ _ ⟨e1, e2⟩
            rw [if_neg hD] at e1 e2
            replace e1 := e1.symm
            replace e2 := e2.symm
            subst e1
            subst e2
            refine zs_istore_n_2_7 46 rfl dX10_land_45 rfl rfl ?_
            refine z_iload_n 47 dX10_land_46 rfl rfl ?_
            refine z_if_ge 52 50 dX10_land_47 (by decide) rfl (fun h47 => ?_) (fun h47 => ?_)
            · exact absurd h47 (by decide)
            · refine z_iload_n 51 dX10_land_50 rfl rfl ?_
              refine z_ri dX10_land_51 rfl ?_
              exact qmf hW e0 hpl hX Fr.rf
          · exact absurd hC.2.2 h31
    · exact absurd hA' h4
