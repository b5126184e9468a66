/-! machine -/
def rSet (o : sRow) : Nat := pset (gOf o) (sSz o)
def mcO (S : sS) (s : Nat) (b : Option Nat) : Int32 × sS := match b with
  | none => sFd S 4
  | some e => sAsk S (nI (unS S s e)) (nI (sLf S e).2.2.1)
def spMachine (S : sS) (r : Int32) : Int32 × sS := if ¬ inN r 6 then (-1, S) else if ¬ sDf (sR S (zx r)) = 0 then sFd S (sDf (sR S (zx r))) else mcO S (rSet (sR S (zx r))) (near S (rSet (sR S (zx r))) (-9) (sLc S))
set_option maxRecDepth 20000 in
theorem tX9_machine {E : zE} {d : Nat} {σ : zM} {S : sS} {r : Int32} (hW : WF S) (hX : RX S σ) : Ret E mX9_machine (d + 3) [zr E 0, .int r] σ (qX σ (spMachine S r)) := by
  have h12 := hW.2.2.1
  by_cases hA : ¬ inN r 6
  · refine Ret.of [some (zr E 0), some (.int r), none, none, none] (by decide +kernel) (Nat.le_of_ble_eq_true rfl) rfl ?_
    refine z_iload_n 1 dX9_machine_0 rfl rfl ?_
    refine z_cSI1 4 (tX9_isRow) kX9_isRow dX9_machine_1 rfl lX9_83 (Nat.le_of_ble_eq_true rfl) ?_
    rintro _ _ ⟨e1, e2⟩
    replace e1 := e1.symm
    replace e2 := e2.symm
    subst e1
    subst e2
    refine z_ifb_ne 9 7 dX9_machine_4 (by decide) rfl (fun h4 => ?_) (fun h4 => ?_)
    · exact absurd h4 hA
    · refine z_iconst 8 (v := (-1)) dX9_machine_7 rfl rfl ?_
      refine z_ri dX9_machine_8 rfl ?_
      exact qx0 (if_pos hA) hX Fr.rf
  have e0 : spMachine S r = _ := if_neg hA
  have hA := Classical.not_not.mp hA
  have hA' := hA
  obtain ⟨r, hr, rfl⟩ := inN_of hA
  rw [zx_nI (by omega)] at e0
  have hk := kd_r hr
  have hk1 := kd_r1 hr
  have hS : Sh σ (24 + 2 * r) 40 (sR S r) := hX.1 r hr
  have hpl := sDf_lt (sR S r)
  refine Ret.of [some (zr E 0), some (.int (nI r)), none, none, none] (by decide +kernel) (Nat.le_of_ble_eq_true rfl) rfl ?_
  by_cases hD : sDf (sR S r) = 0
  · rw [if_neg (fun z => z hD)] at e0
    obtain ⟨q, hq, hpt, hqg⟩ := sDf0 hD
    have hsz : sSz (sR S r) = q.1 := by rw [hq]; rfl
    have hS' : Sh σ (24 + 2 * r) 40 (some q) := by rw [← hq]; exact hS
    have hrs : pset (gOf (sR S r)) q.1 = rSet (sR S r) := by unfold rSet; rw [hsz]
    have hsl : rSet (sR S r) < 1024 := by rw [← hrs]; exact pset_lt _ 10 _ (fun i hi => (hpt.2.2 i hi).1)
    cases hnr : near S (rSet (sR S r)) (-9) (sLc S) with
    | none =>
      rw [hnr] at e0
      refine z_iload_n 1 dX9_machine_0 rfl rfl ?_
      refine z_cSI1 4 (tX9_isRow) kX9_isRow dX9_machine_1 rfl lX9_83 (Nat.le_of_ble_eq_true rfl) ?_
      rintro _ _ ⟨e1, e2⟩
      replace e1 := e1.symm
      replace e2 := e2.symm
      subst e1
      subst e2
      refine z_ifb_ne 9 7 dX9_machine_4 (by decide) rfl (fun h4 => ?_) (fun h4 => ?_)
      · refine z_aload_n 10 dX9_machine_9 rfl rfl ?_
        refine gX9_11 13 rfl dX9_machine_10 rfl ?_
        refine z_iload_n 14 dX9_machine_13 rfl rfl ?_
        refine z_aald1 15 dX9_machine_14 rfl (by omega) ?_
        refine z_cVI0 18 (tX7_drawnFault hk hk1 hS) kX7_drawnFault dX9_machine_15 rfl lX9_216 (by first | assumption | rfl) (Nat.le_of_ble_eq_true rfl) ?_
        rintro _ _ ⟨e1, e2⟩
        replace e1 := e1.symm
        replace e2 := e2.symm
        subst e1
        subst e2
        rw [hD]
        refine zs_istore_n_2_5 19 rfl dX9_machine_18 rfl rfl ?_
        refine z_iload_n 20 dX9_machine_19 rfl rfl ?_
        refine z_if_eq 32 23 dX9_machine_20 (by decide) rfl (fun h20 => ?_) (fun h20 => ?_)
        · (try rw [nI_eq0 (by omega)] at h20)
          refine z_aload_n 33 dX9_machine_32 rfl rfl ?_
          refine gX9_11 36 rfl dX9_machine_33 rfl ?_
          refine z_iload_n 37 dX9_machine_36 rfl rfl ?_
          refine z_aald1 38 dX9_machine_37 rfl (by omega) ?_
          refine z_cVI0 41 (tX7_partSet (g := gOf (sR S r)) hk hk1 hS' (fun i hi => ⟨hqg i hi, (hpt.2.2 i hi).1⟩)) kX7_partSet dX9_machine_38 rfl lX9_293 (by first | assumption | rfl) (Nat.le_of_ble_eq_true rfl) ?_
          rintro _ _ ⟨e1, e2⟩
          replace e1 := e1.symm
          replace e2 := e2.symm
          subst e1
          subst e2
          rw [hrs]
          refine zs_istore_n_3_5 42 rfl dX9_machine_41 rfl rfl ?_
          refine z_aload_n 43 dX9_machine_42 rfl rfl ?_
          refine z_iload_n 44 dX9_machine_43 rfl rfl ?_
          refine z_bipush 46 (v := (-9)) dX9_machine_44 rfl rfl ?_
          refine z_cVI2 49 (tX9_nearestLeaf hW hX hsl) kX9_nearestLeaf dX9_machine_46 rfl lX9_338 (by first | assumption | rfl) (Nat.le_of_ble_eq_true rfl) ?_
          rintro x1 _ ⟨e1, e2⟩
          replace e1 : x1 = -9 := e1.trans (by rw [hnr]; rfl)
          subst e1
          replace e2 := e2.symm
          subst e2
          refine zs_istore_4_5 51 rfl dX9_machine_49 rfl rfl ?_
          refine z_iload 53 dX9_machine_51 rfl rfl ?_
          refine z_bipush 55 (v := (-9)) dX9_machine_53 rfl rfl ?_
          refine z_icmp_ne 67 58 dX9_machine_55 (by decide) rfl (fun h55 => ?_) (fun h55 => ?_)
          · exact absurd rfl h55
          · refine z_aload_n 59 dX9_machine_58 rfl rfl ?_
            refine gX9_39 62 rfl dX9_machine_59 rfl ?_
            refine z_iconst 63 (v := nI 4) dX9_machine_62 rfl rfl ?_
            refine z_cVI1 66 (tX0_found (by omega) (by omega)) kX0_found dX9_machine_63 rfl lX9_87 (by first | assumption | rfl) (Nat.le_of_ble_eq_true rfl) ?_
            rintro _ _ ⟨e1, e2⟩
            replace e1 := e1.symm
            replace e2 := e2.symm
            subst e1
            subst e2
            refine z_ri dX9_machine_66 rfl ?_
            exact qxf hW e0 (by decide) hX Fr.rf
        · (try rw [nI_eq0 (by omega)] at h20)
          exact absurd rfl h20
      · exact absurd hA' h4
    | some e =>
      rw [hnr] at e0
      have hel := near_lt _ e hnr
      have hke := kd_e (show e < 12 by omega)
      have hwd : gi σ (64 + 3 * e) 3 = nI (sLf S e).2.2.1 := (hX.2.2.2.2.1.2 e hel).2.2.1
      refine z_iload_n 1 dX9_machine_0 rfl rfl ?_
      refine z_cSI1 4 (tX9_isRow) kX9_isRow dX9_machine_1 rfl lX9_83 (Nat.le_of_ble_eq_true rfl) ?_
      rintro _ _ ⟨e1, e2⟩
      replace e1 := e1.symm
      replace e2 := e2.symm
      subst e1
      subst e2
      refine z_ifb_ne 9 7 dX9_machine_4 (by decide) rfl (fun h4 => ?_) (fun h4 => ?_)
      · refine z_aload_n 10 dX9_machine_9 rfl rfl ?_
        refine gX9_11 13 rfl dX9_machine_10 rfl ?_
        refine z_iload_n 14 dX9_machine_13 rfl rfl ?_
        refine z_aald1 15 dX9_machine_14 rfl (by omega) ?_
        refine z_cVI0 18 (tX7_drawnFault hk hk1 hS) kX7_drawnFault dX9_machine_15 rfl lX9_216 (by first | assumption | rfl) (Nat.le_of_ble_eq_true rfl) ?_
        rintro _ _ ⟨e1, e2⟩
        replace e1 := e1.symm
        replace e2 := e2.symm
        subst e1
        subst e2
        rw [hD]
        refine zs_istore_n_2_5 19 rfl dX9_machine_18 rfl rfl ?_
        refine z_iload_n 20 dX9_machine_19 rfl rfl ?_
        refine z_if_eq 32 23 dX9_machine_20 (by decide) rfl (fun h20 => ?_) (fun h20 => ?_)
        · (try rw [nI_eq0 (by omega)] at h20)
          refine z_aload_n 33 dX9_machine_32 rfl rfl ?_
          refine gX9_11 36 rfl dX9_machine_33 rfl ?_
          refine z_iload_n 37 dX9_machine_36 rfl rfl ?_
          refine z_aald1 38 dX9_machine_37 rfl (by omega) ?_
          refine z_cVI0 41 (tX7_partSet (g := gOf (sR S r)) hk hk1 hS' (fun i hi => ⟨hqg i hi, (hpt.2.2 i hi).1⟩)) kX7_partSet dX9_machine_38 rfl lX9_293 (by first | assumption | rfl) (Nat.le_of_ble_eq_true rfl) ?_
          rintro _ _ ⟨e1, e2⟩
          replace e1 := e1.symm
          replace e2 := e2.symm
          subst e1
          subst e2
          rw [hrs]
          refine zs_istore_n_3_5 42 rfl dX9_machine_41 rfl rfl ?_
          refine z_aload_n 43 dX9_machine_42 rfl rfl ?_
          refine z_iload_n 44 dX9_machine_43 rfl rfl ?_
          refine z_bipush 46 (v := (-9)) dX9_machine_44 rfl rfl ?_
          refine z_cVI2 49 (tX9_nearestLeaf hW hX hsl) kX9_nearestLeaf dX9_machine_46 rfl lX9_338 (by first | assumption | rfl) (Nat.le_of_ble_eq_true rfl) ?_
          rintro x1 _ ⟨e1, e2⟩
          replace e1 : x1 = nI e := e1.trans (by rw [hnr]; rfl)
          subst e1
          replace e2 := e2.symm
          subst e2
          refine zs_istore_4_5 51 rfl dX9_machine_49 rfl rfl ?_
          refine z_iload 53 dX9_machine_51 rfl rfl ?_
          refine z_bipush 55 (v := (-9)) dX9_machine_53 rfl rfl ?_
          refine z_icmp_ne 67 58 dX9_machine_55 (by decide) rfl (fun h55 => ?_) (fun h55 => ?_)
          · refine z_aload_n 68 dX9_machine_67 rfl rfl ?_
            refine gX9_39 71 rfl dX9_machine_68 rfl ?_
            refine z_aload_n 72 dX9_machine_71 rfl rfl ?_
            refine gX9_32 75 rfl dX9_machine_72 rfl ?_
            refine z_iload 77 dX9_machine_75 rfl rfl ?_
            refine z_aald5 78 dX9_machine_77 rfl (by omega) ?_
            refine z_iload_n 79 dX9_machine_78 rfl rfl ?_
            refine z_cVI1 82 (tX3_unlike hW hX hel hsl) kX3_unlike dX9_machine_79 rfl lX9_341 (by first | assumption | rfl) (Nat.le_of_ble_eq_true rfl) ?_
            rintro _ _ ⟨e1, e2⟩
            replace e1 := e1.symm
            replace e2 := e2.symm
            subst e1
            subst e2
            rw [show pop (pset (sLf S e).2.2.2.2.1 (sLf S e).2.2.2.1 ^^^ rSet (sR S r)) = unS S (rSet (sR S r)) e from rfl]
            refine z_cVI1 85 (tX0_ask) kX0_ask dX9_machine_82 rfl lX9_104 (by first | assumption | rfl) (Nat.le_of_ble_eq_true rfl) ?_
            rintro _ _ ⟨e1, e2⟩
            replace e1 := e1.symm
            replace e2 := e2.symm
            subst e1
            subst e2
            refine z_pop 86 dX9_machine_85 rfl rfl ?_
            refine z_aload_n 87 dX9_machine_86 rfl rfl ?_
            refine gX9_32 90 rfl dX9_machine_87 rfl ?_
            refine z_iload 92 dX9_machine_90 rfl rfl ?_
            refine z_aald5 93 dX9_machine_92 rfl (by omega) ?_
            refine gX9_344 96 rfl dX9_machine_93 rfl (by first | assumption | rfl) ?_
            rw [gi_s2 _ _ (by omega), hwd]
            refine z_ri dX9_machine_96 rfl ?_
            exact qxa hW e0 hX Fr.rf
          · exact absurd (nI_pos' (show e < 2 ^ 31 by omega)) (by rw [h55]; decide)
        · (try rw [nI_eq0 (by omega)] at h20)
          exact absurd rfl h20
      · exact absurd hA' h4
  · rw [if_pos hD] at e0
    refine z_iload_n 1 dX9_machine_0 rfl rfl ?_
    refine z_cSI1 4 (tX9_isRow) kX9_isRow dX9_machine_1 rfl lX9_83 (Nat.le_of_ble_eq_true rfl) ?_
    rintro _ _ ⟨e1, e2⟩
    replace e1 := e1.symm
    replace e2 := e2.symm
    subst e1
    subst e2
    refine z_ifb_ne 9 7 dX9_machine_4 (by decide) rfl (fun h4 => ?_) (fun h4 => ?_)
    · refine z_aload_n 10 dX9_machine_9 rfl rfl ?_
      refine gX9_11 13 rfl dX9_machine_10 rfl ?_
      refine z_iload_n 14 dX9_machine_13 rfl rfl ?_
      refine z_aald1 15 dX9_machine_14 rfl (by omega) ?_
      refine z_cVI0 18 (tX7_drawnFault hk hk1 hS) kX7_drawnFault dX9_machine_15 rfl lX9_216 (by first | assumption | rfl) (Nat.le_of_ble_eq_true rfl) ?_
      rintro _ _ ⟨e1, e2⟩
      replace e1 := e1.symm
      replace e2 := e2.symm
      subst e1
      subst e2
      refine zs_istore_n_2_5 19 rfl dX9_machine_18 rfl rfl ?_
      refine z_iload_n 20 dX9_machine_19 rfl rfl ?_
      refine z_if_eq 32 23 dX9_machine_20 (by decide) rfl (fun h20 => ?_) (fun h20 => ?_)
      · (try rw [nI_eq0 (by omega)] at h20)
        exact absurd h20 hD
      · (try rw [nI_eq0 (by omega)] at h20)
        refine z_aload_n 24 dX9_machine_23 rfl rfl ?_
        refine gX9_39 27 rfl dX9_machine_24 rfl ?_
        refine z_iload_n 28 dX9_machine_27 rfl rfl ?_
        refine z_cVI1 31 (tX0_found (by omega) hpl) kX0_found dX9_machine_28 rfl lX9_87 (by first | assumption | rfl) (Nat.le_of_ble_eq_true rfl) ?_
        rintro _ _ ⟨e1, e2⟩
        replace e1 := e1.symm
        replace e2 := e2.symm
        subst e1
        subst e2
        refine z_ri dX9_machine_31 rfl ?_
        exact qxf hW e0 hpl hX Fr.rf
    · exact absurd hA' h4
set_option maxRecDepth 20000 in
theorem tX10_machine {E : zE} {d : Nat} {σ : zM} {S : sS} {r : Int32} (hW : WF S) (hX : RM S σ) : Ret E mX10_machine (d + 2) [zr E 102, .int r] σ (qM σ (spMachine S r)) := by
  have h12 := hW.2.2.1
  have hb8 := bw_le hW (show 0 < 2 by omega)
  by_cases hA : ¬ inN r 6
  · refine Ret.of [some (zr E 102), some (.int r), none, none] (by decide +kernel) (Nat.le_of_ble_eq_true rfl) rfl ?_
    refine z_iload_n 1 dX10_machine_0 rfl rfl ?_
    refine z_cSI1 4 (tX10_isRow) kX10_isRow dX10_machine_1 rfl lX10_95 (Nat.le_of_ble_eq_true rfl) ?_
    rintro _ _ ⟨e1, e2⟩
    replace e1 := e1.symm
    replace e2 := e2.symm
    subst e1
    subst e2
    refine z_ifb_ne 9 7 dX10_machine_4 (by decide) rfl (fun h4 => ?_) (fun h4 => ?_)
    · exact absurd h4 hA
    · refine z_iconst 8 (v := (-1)) dX10_machine_7 rfl rfl ?_
      refine z_ri dX10_machine_8 rfl ?_
      exact qm0 (if_pos hA) hX Fr.rf
  have e0 : spMachine S r = _ := if_neg hA
  have hA := Classical.not_not.mp hA
  have hA' := hA
  obtain ⟨r, hr, rfl⟩ := inN_of hA
  rw [zx_nI (by omega)] at e0
  have hS : mSh σ 104 105 r 40 (sR S r) := hX.1 r hr
  have hpl := sDf_lt (sR S r)
  refine Ret.of [some (zr E 102), some (.int (nI r)), none, none] (by decide +kernel) (Nat.le_of_ble_eq_true rfl) rfl ?_
  by_cases hD : sDf (sR S r) = 0
  · rw [if_neg (fun z => z hD)] at e0
    obtain ⟨q, hq, hpt, hqg⟩ := sDf0 hD
    have hsz : sSz (sR S r) = q.1 := by rw [hq]; rfl
    have hS' : mSh σ 104 105 r 40 (some q) := by rw [← hq]; exact hS
    have hrs : pset (gOf (sR S r)) q.1 = rSet (sR S r) := by unfold rSet; rw [hsz]
    have hsl : rSet (sR S r) < 1024 := by rw [← hrs]; exact pset_lt _ 10 _ (fun i hi => (hpt.2.2 i hi).1)
    cases hnr : near S (rSet (sR S r)) (-9) (sLc S) with
    | none =>
      rw [hnr] at e0
      refine z_iload_n 1 dX10_machine_0 rfl rfl ?_
      refine z_cSI1 4 (tX10_isRow) kX10_isRow dX10_machine_1 rfl lX10_95 (Nat.le_of_ble_eq_true rfl) ?_
      rintro _ _ ⟨e1, e2⟩
      replace e1 := e1.symm
      replace e2 := e2.symm
      subst e1
      subst e2
      refine z_ifb_ne 9 7 dX10_machine_4 (by decide) rfl (fun h4 => ?_) (fun h4 => ?_)
      · refine z_aload_n 10 dX10_machine_9 rfl rfl ?_
        refine z_iload_n 11 dX10_machine_10 rfl rfl ?_
        refine z_cVI1 14 (tX10_askedDrawn hr hX) kX10_askedDrawn dX10_machine_11 rfl lX10_212 (by first | assumption | rfl) (Nat.le_of_ble_eq_true rfl) ?_
        rintro _ _ ⟨e1, e2⟩
        rw [if_pos hD] at e1 e2
        replace e1 := e1.symm
        replace e2 := e2.symm
        subst e1
        subst e2
        refine zs_istore_n_2_4 15 rfl dX10_machine_14 rfl rfl ?_
        refine z_iload_n 16 dX10_machine_15 rfl rfl ?_
        refine z_if_ge 21 19 dX10_machine_16 (by decide) rfl (fun h16 => ?_) (fun h16 => ?_)
        · refine z_aload_n 22 dX10_machine_21 rfl rfl ?_
          refine z_aload_n 23 dX10_machine_22 rfl rfl ?_
          refine z_iload_n 24 dX10_machine_23 rfl rfl ?_
          refine z_cVI1 27 (tX10_rowSet (g := gOf (sR S r)) hr hS' (fun i hi => ⟨hqg i hi, (hpt.2.2 i hi).1⟩)) kX10_rowSet dX10_machine_24 rfl lX10_297 (by first | assumption | rfl) (Nat.le_of_ble_eq_true rfl) ?_
          rintro _ _ ⟨e1, e2⟩
          replace e1 := e1.symm
          replace e2 := e2.symm
          subst e1
          subst e2
          rw [hrs]
          refine z_bipush 29 (v := (-9)) dX10_machine_27 rfl rfl ?_
          refine z_cVI2 32 (tX10_takes hW hX hsl) kX10_takes dX10_machine_29 rfl lX10_322 (by first | assumption | rfl) (Nat.le_of_ble_eq_true rfl) ?_
          rintro x1 τ1 ⟨e1, hF1, hX1, hU1⟩
          replace e1 : x1 = -9 := e1.trans (by rw [hnr]; rfl)
          subst e1
          refine zs_istore_n_3_4 33 rfl dX10_machine_32 rfl rfl ?_
          refine z_iload_n 34 dX10_machine_33 rfl rfl ?_
          refine z_bipush 36 (v := (-9)) dX10_machine_34 rfl rfl ?_
          refine z_icmp_ne 47 39 dX10_machine_36 (by decide) rfl (fun h36 => ?_) (fun h36 => ?_)
          · exact absurd rfl h36
          · refine z_aload_n 40 dX10_machine_39 rfl rfl ?_
            refine z_iconst 41 (v := nI 4) dX10_machine_40 rfl rfl ?_
            refine z_cVI1 44 (tX10_meets (by omega)) kX10_meets dX10_machine_41 rfl lX10_99 (by first | assumption | rfl) (Nat.le_of_ble_eq_true rfl) ?_
            rintro _ _ ⟨e1, e2⟩
            replace e1 := e1.symm
            replace e2 := e2.symm
            subst e1
            subst e2
            refine z_goto 56 dX10_machine_44 rfl ?_
            refine z_ri dX10_machine_56 rfl ?_
            exact qmf hW e0 (by decide) hX1 (hF1.mono (by intros; omega))
        · exact absurd (nI_pos' (by decide)) h16
      · exact absurd hA' h4
    | some e =>
      rw [hnr] at e0
      have hel := near_lt _ e hnr
      have hew := lfWord hW hel
      refine z_iload_n 1 dX10_machine_0 rfl rfl ?_
      refine z_cSI1 4 (tX10_isRow) kX10_isRow dX10_machine_1 rfl lX10_95 (Nat.le_of_ble_eq_true rfl) ?_
      rintro _ _ ⟨e1, e2⟩
      replace e1 := e1.symm
      replace e2 := e2.symm
      subst e1
      subst e2
      refine z_ifb_ne 9 7 dX10_machine_4 (by decide) rfl (fun h4 => ?_) (fun h4 => ?_)
      · refine z_aload_n 10 dX10_machine_9 rfl rfl ?_
        refine z_iload_n 11 dX10_machine_10 rfl rfl ?_
        refine z_cVI1 14 (tX10_askedDrawn hr hX) kX10_askedDrawn dX10_machine_11 rfl lX10_212 (by first | assumption | rfl) (Nat.le_of_ble_eq_true rfl) ?_
        rintro _ _ ⟨e1, e2⟩
        rw [if_pos hD] at e1 e2
        replace e1 := e1.symm
        replace e2 := e2.symm
        subst e1
        subst e2
        refine zs_istore_n_2_4 15 rfl dX10_machine_14 rfl rfl ?_
        refine z_iload_n 16 dX10_machine_15 rfl rfl ?_
        refine z_if_ge 21 19 dX10_machine_16 (by decide) rfl (fun h16 => ?_) (fun h16 => ?_)
        · refine z_aload_n 22 dX10_machine_21 rfl rfl ?_
          refine z_aload_n 23 dX10_machine_22 rfl rfl ?_
          refine z_iload_n 24 dX10_machine_23 rfl rfl ?_
          refine z_cVI1 27 (tX10_rowSet (g := gOf (sR S r)) hr hS' (fun i hi => ⟨hqg i hi, (hpt.2.2 i hi).1⟩)) kX10_rowSet dX10_machine_24 rfl lX10_297 (by first | assumption | rfl) (Nat.le_of_ble_eq_true rfl) ?_
          rintro _ _ ⟨e1, e2⟩
          replace e1 := e1.symm
          replace e2 := e2.symm
          subst e1
          subst e2
          rw [hrs]
          refine z_bipush 29 (v := (-9)) dX10_machine_27 rfl rfl ?_
          refine z_cVI2 32 (tX10_takes hW hX hsl) kX10_takes dX10_machine_29 rfl lX10_322 (by first | assumption | rfl) (Nat.le_of_ble_eq_true rfl) ?_
          rintro x1 τ1 ⟨e1, hF1, hX1, hU1⟩
          replace e1 : x1 = nI (sLf S e).2.2.1 := e1.trans (by rw [hnr]; rfl)
          subst e1
          have hUe := hU1 e hnr
          refine zs_istore_n_3_4 33 rfl dX10_machine_32 rfl rfl ?_
          refine z_iload_n 34 dX10_machine_33 rfl rfl ?_
          refine z_bipush 36 (v := (-9)) dX10_machine_34 rfl rfl ?_
          refine z_icmp_ne 47 39 dX10_machine_36 (by decide) rfl (fun h36 => ?_) (fun h36 => ?_)
          · refine z_aload_n 48 dX10_machine_47 rfl rfl ?_
            refine z_aload_n 49 dX10_machine_48 rfl rfl ?_
            refine gX10_319 52 rfl dX10_machine_49 rfl ?_
            rw [hUe]
            refine z_iload_n 53 dX10_machine_52 rfl rfl ?_
            refine z_cVI2 56 (tX10_ask) kX10_ask dX10_machine_53 rfl lX10_117 (by first | assumption | rfl) (Nat.le_of_ble_eq_true rfl) ?_
            rintro _ _ ⟨e1, e2⟩
            replace e1 := e1.symm
            replace e2 := e2.symm
            subst e1
            subst e2
            refine z_ri dX10_machine_56 rfl ?_
            exact qma hW e0 hX1 (hF1.mono (by intros; omega))
          · exact absurd (nI_pos' (show (sLf S e).2.2.1 < 2 ^ 31 by omega)) (by rw [h36]; decide)
        · exact absurd (nI_pos' (by decide)) h16
      · exact absurd hA' h4
  · rw [if_pos hD] at e0
    refine z_iload_n 1 dX10_machine_0 rfl rfl ?_
    refine z_cSI1 4 (tX10_isRow) kX10_isRow dX10_machine_1 rfl lX10_95 (Nat.le_of_ble_eq_true rfl) ?_
    rintro _ _ ⟨e1, e2⟩
    replace e1 := e1.symm
    replace e2 := e2.symm
    subst e1
    subst e2
    refine z_ifb_ne 9 7 dX10_machine_4 (by decide) rfl (fun h4 => ?_) (fun h4 => ?_)
    · refine z_aload_n 10 dX10_machine_9 rfl rfl ?_
      refine z_iload_n 11 dX10_machine_10 rfl rfl ?_
      refine z_cVI1 14 (tX10_askedDrawn hr hX) kX10_askedDrawn dX10_machine_11 rfl lX10_212 (by first | assumption | rfl) (Nat.le_of_ble_eq_true rfl) ?_
      rintro _ _ ⟨e1, e2⟩
      rw [if_neg hD] at e1 e2
      replace e1 := e1.symm
      replace e2 := e2.symm
      subst e1
      subst e2
      refine zs_istore_n_2_4 15 rfl dX10_machine_14 rfl rfl ?_
      refine z_iload_n 16 dX10_machine_15 rfl rfl ?_
      refine z_if_ge 21 19 dX10_machine_16 (by decide) rfl (fun h16 => ?_) (fun h16 => ?_)
      · (try rw [nI_ge0 (by omega)] at h16)
        exact absurd h16 (by decide)
      · (try rw [nI_ge0 (by omega)] at h16)
        refine z_iload_n 20 dX10_machine_19 rfl rfl ?_
        refine z_ri dX10_machine_20 rfl ?_
        exact qmf hW e0 hpl hX Fr.rf
    · exact absurd hA' h4
/-! held -/
def gls (S : sS) (n : Nat) : Nat := fsum (fun e => if (sLf S e).1 = true then 1 else 0) n
def dls (S : sS) (n : Nat) : Nat := fsum (fun e => if (sLf S e).1 = false then 1 else 0) n
theorem gls_dls (S : sS) : ∀ n, gls S n + dls S n = n := by
  intro n
  induction n with
  | zero => rfl
  | succ n ih =>
    show (gls S n + if (sLf S n).1 = true then 1 else 0) + (dls S n + if (sLf S n).1 = false then 1 else 0) = n + 1
    cases h : (sLf S n).1 with
    | true => rw [if_pos rfl, if_neg (by decide)]; omega
    | false => rw [if_neg (by decide), if_pos rfl]; omega
abbrev wlP (S : sS) (e : Nat) : Prop := (sLf S e).1 = false ∧ wdO S (near S (lfS S e) (nI e) (sLc S)) = nI (sLf S e).2.2.1
def wl (S : sS) (n : Nat) : Nat := fsum (fun e => if wlP S e then 1 else 0) n
theorem wl_y {S : sS} {i : Nat} (h : wlP S i) : wl S (i + 1) = wl S i + 1 := by
  show wl S i + (if wlP S i then 1 else 0) = _
  rw [if_pos h]
theorem wl_n {S : sS} {i : Nat} (h : ¬ wlP S i) : wl S (i + 1) = wl S i := by
  show wl S i + (if wlP S i then 1 else 0) = _
  rw [if_neg h, Nat.add_zero]
theorem wl_le (S : sS) (n : Nat) : wl S n ≤ n := by
  have h : wl S n ≤ 1 * n := fsum_bd n (fun i _ => by show (if wlP S i then 1 else 0) ≤ 1; split <;> omega)
  omega
def spHeld (S : sS) : Int32 × sS := if dls S (sLc S) < 2 then sFd S 4 else sAsk S (nI (dls S (sLc S))) (nI (wl S (sLc S)))
set_option maxRecDepth 20000 in
theorem tX9_guessLeaves {E : zE} {d : Nat} {σ : zM} {S : sS} (hW : WF S) (hX : RX S σ) : Ret E mX9_guessLeaves d [zr E 0] σ (qI fun x τ => x = nI (gls S (sLc S)) ∧ τ = σ) := by
  have h12 := hW.2.2.1
  have hlc : gi σ 0 12 = nI (sLc S) := hX.2.2.2.2.1.1
  refine Ret.of [some (zr E 0), none, none] (by decide +kernel) (Nat.le_of_ble_eq_true rfl) rfl ?_
  have loop : ∀ i, i ≤ sLc S → At E mX9_guessLeaves d (qI fun x τ => x = nI (gls S (sLc S)) ∧ τ = σ) 4 [some (zr E 0), some (.int (nI (gls S i))), some (.int (nI i))] [] σ := by
    refine z_up (fun i hi ih => ?_)
    by_cases hie : i = sLc S
    · subst hie
      refine z_iload_n 5 dX9_guessLeaves_4 rfl rfl ?_
      refine z_aload_n 6 dX9_guessLeaves_5 rfl rfl ?_
      refine gX9_153 9 rfl dX9_guessLeaves_6 rfl ?_
      rw [hlc]
      refine z_icmp_ge 33 12 dX9_guessLeaves_9 (by decide) rfl (fun h9 => ?_) (fun h9 => ?_)
      · (try rw [nI_leI (by omega) (by omega)] at h9)
        refine z_iload_n 34 dX9_guessLeaves_33 rfl rfl ?_
        refine z_ri dX9_guessLeaves_34 rfl ?_
        exact ⟨rfl, rfl⟩
      · (try rw [nI_leI (by omega) (by omega)] at h9)
        omega
    · have hil : i < sLc S := by omega
      have hke := kd_e (show i < 12 by omega)
      have hih := ih (i + 1) (by omega) (by omega)
      have hg : gi σ (64 + 3 * i) 1 = bI (sLf S i).1 := (hX.2.2.2.2.1.2 i hil).1
      have er : gls S (i + 1) = gls S i + if (sLf S i).1 = true then 1 else 0 := rfl
      cases hgs : (sLf S i).1 with
      | true =>
        rw [hgs] at hg
        rw [hgs, if_pos rfl] at er
        rw [er] at hih
        refine z_iload_n 5 dX9_guessLeaves_4 rfl rfl ?_
        refine z_aload_n 6 dX9_guessLeaves_5 rfl rfl ?_
        refine gX9_153 9 rfl dX9_guessLeaves_6 rfl ?_
        rw [hlc]
        refine z_icmp_ge 33 12 dX9_guessLeaves_9 (by decide) rfl (fun h9 => ?_) (fun h9 => ?_)
        · (try rw [nI_leI (by omega) (by omega)] at h9)
          omega
        · (try rw [nI_leI (by omega) (by omega)] at h9)
          refine z_aload_n 13 dX9_guessLeaves_12 rfl rfl ?_
          refine gX9_32 16 rfl dX9_guessLeaves_13 rfl ?_
          refine z_iload_n 17 dX9_guessLeaves_16 rfl rfl ?_
          refine z_aald5 18 dX9_guessLeaves_17 rfl (by omega) ?_
          refine gX9_350 21 rfl dX9_guessLeaves_18 rfl (by first | assumption | rfl) ?_
          rw [hg]
          refine z_if_eq 27 24 dX9_guessLeaves_21 (by decide) rfl (fun h21 => ?_) (fun h21 => ?_)
          · exact absurd h21 (by decide)
          · refine zs_iinc_1_3_1 27 rfl dX9_guessLeaves_24 rfl rfl ?_
            rw [nI_add]
            refine zs_iinc_2_3_1 30 rfl dX9_guessLeaves_27 rfl rfl ?_
            rw [nI_add]
            refine z_goto 4 dX9_guessLeaves_30 rfl ?_
            exact hih
      | false =>
        rw [hgs] at hg
        rw [hgs, if_neg (by decide), Nat.add_zero] at er
        rw [er] at hih
        refine z_iload_n 5 dX9_guessLeaves_4 rfl rfl ?_
        refine z_aload_n 6 dX9_guessLeaves_5 rfl rfl ?_
        refine gX9_153 9 rfl dX9_guessLeaves_6 rfl ?_
        rw [hlc]
        refine z_icmp_ge 33 12 dX9_guessLeaves_9 (by decide) rfl (fun h9 => ?_) (fun h9 => ?_)
        · (try rw [nI_leI (by omega) (by omega)] at h9)
          omega
        · (try rw [nI_leI (by omega) (by omega)] at h9)
          refine z_aload_n 13 dX9_guessLeaves_12 rfl rfl ?_
          refine gX9_32 16 rfl dX9_guessLeaves_13 rfl ?_
          refine z_iload_n 17 dX9_guessLeaves_16 rfl rfl ?_
          refine z_aald5 18 dX9_guessLeaves_17 rfl (by omega) ?_
          refine gX9_350 21 rfl dX9_guessLeaves_18 rfl (by first | assumption | rfl) ?_
          rw [hg]
          refine z_if_eq 27 24 dX9_guessLeaves_21 (by decide) rfl (fun h21 => ?_) (fun h21 => ?_)
          · refine zs_iinc_2_3_1 30 rfl dX9_guessLeaves_27 rfl rfl ?_
            rw [nI_add]
            refine z_goto 4 dX9_guessLeaves_30 rfl ?_
            exact hih
          · exact absurd rfl h21
  refine z_iconst 1 (v := nI 0) dX9_guessLeaves_0 rfl rfl ?_
  refine zs_istore_n_1_3 2 rfl dX9_guessLeaves_1 rfl rfl ?_
  refine z_iconst 3 (v := nI 0) dX9_guessLeaves_2 rfl rfl ?_
  refine zs_istore_n_2_3 4 rfl dX9_guessLeaves_3 rfl rfl ?_
  exact loop 0 (Nat.zero_le _)
set_option maxRecDepth 20000 in
theorem tX9_held {E : zE} {d : Nat} {σ : zM} {S : sS} (hW : WF S) (hX : RX S σ) : Ret E mX9_held (d + 3) [zr E 0] σ (qX σ (spHeld S)) := by
  have h12 := hW.2.2.1
  have hb8 := bw_le hW (show 0 < 2 by omega)
  have hlc : gi σ 0 12 = nI (sLc S) := hX.2.2.2.2.1.1
  have hgd := gls_dls S (sLc S)
  refine Ret.of [some (zr E 0), none, none, none, none] (by decide +kernel) (Nat.le_of_ble_eq_true rfl) rfl ?_
  by_cases hB : dls S (sLc S) < 2
  · have e0 : spHeld S = _ := if_pos hB
    refine z_aload_n 1 dX9_held_0 rfl rfl ?_
    refine gX9_153 4 rfl dX9_held_1 rfl ?_
    rw [hlc]
    refine z_aload_n 5 dX9_held_4 rfl rfl ?_
    refine z_cVI0 8 (tX9_guessLeaves hW hX) kX9_guessLeaves dX9_held_5 rfl lX9_347 (by first | assumption | rfl) (Nat.le_of_ble_eq_true rfl) ?_
    rintro _ _ ⟨e1, e2⟩
    replace e1 := e1.symm
    replace e2 := e2.symm
    subst e1
    subst e2
    refine z_isub 9 dX9_held_8 rfl ?_
    rw [nI_sub (by omega), show sLc S - gls S (sLc S) = dls S (sLc S) by omega]
    refine zs_istore_n_1_5 10 rfl dX9_held_9 rfl rfl ?_
    refine z_iload_n 11 dX9_held_10 rfl rfl ?_
    refine z_iconst 12 (v := nI 2) dX9_held_11 rfl rfl ?_
    refine z_icmp_ge 24 15 dX9_held_12 (by decide) rfl (fun h12 => ?_) (fun h12 => ?_)
    · (try rw [nI_leI (by omega) (by omega)] at h12)
      omega
    · (try rw [nI_leI (by omega) (by omega)] at h12)
      refine z_aload_n 16 dX9_held_15 rfl rfl ?_
      refine gX9_39 19 rfl dX9_held_16 rfl ?_
      refine z_iconst 20 (v := nI 4) dX9_held_19 rfl rfl ?_
      refine z_cVI1 23 (tX0_found (by omega) (by omega)) kX0_found dX9_held_20 rfl lX9_87 (by first | assumption | rfl) (Nat.le_of_ble_eq_true rfl) ?_
      rintro _ _ ⟨e1, e2⟩
      replace e1 := e1.symm
      replace e2 := e2.symm
      subst e1
      subst e2
      refine z_ri dX9_held_23 rfl ?_
      exact qxf hW e0 (by decide) hX Fr.rf
  have e0 : spHeld S = _ := if_neg hB
  have loop : ∀ i, i ≤ sLc S → ∀ y, At E mX9_held (d + 3) (qX σ (spHeld S)) 28 [some (zr E 0), some (.int (nI (dls S (sLc S)))), some (.int (nI (wl S i))), some (.int (nI i)), y] [] σ := by
    refine z_up (fun i hi ih y => ?_)
    by_cases hie : i = sLc S
    · subst hie
      refine z_iload_n 29 dX9_held_28 rfl rfl ?_
      refine z_aload_n 30 dX9_held_29 rfl rfl ?_
      refine gX9_153 33 rfl dX9_held_30 rfl ?_
      rw [hlc]
      refine z_icmp_ge 105 36 dX9_held_33 (by decide) rfl (fun h33 => ?_) (fun h33 => ?_)
      · (try rw [nI_leI (by omega) (by omega)] at h33)
        refine z_aload_n 106 dX9_held_105 rfl rfl ?_
        refine gX9_39 109 rfl dX9_held_106 rfl ?_
        refine z_iload_n 110 dX9_held_109 rfl rfl ?_
        refine z_cVI1 113 (tX0_ask) kX0_ask dX9_held_110 rfl lX9_104 (by first | assumption | rfl) (Nat.le_of_ble_eq_true rfl) ?_
        rintro _ _ ⟨e1, e2⟩
        replace e1 := e1.symm
        replace e2 := e2.symm
        subst e1
        subst e2
        refine z_pop 114 dX9_held_113 rfl rfl ?_
        refine z_iload_n 115 dX9_held_114 rfl rfl ?_
        refine z_ri dX9_held_115 rfl ?_
        exact qxa hW e0 hX Fr.rf
      · (try rw [nI_leI (by omega) (by omega)] at h33)
        omega
    · have hil : i < sLc S := by omega
      have hke := kd_e (show i < 12 by omega)
      obtain ⟨l1, l2, l3, l4, l5, l6, l7⟩ := hX.2.2.2.2.1.2 i hil
      have hg : gi σ (64 + 3 * i) 1 = bI (sLf S i).1 := l1
      have hwd : gi σ (64 + 3 * i) 3 = nI (sLf S i).2.2.1 := l3
      have hset : gi σ (64 + 3 * i) 4 = nI (lfS S i) := l4
      have hww := lfWord hW hil
      cases hgs : (sLf S i).1 with
      | true =>
        rw [hgs] at hg
        have er : wl S (i + 1) = wl S i := wl_n (fun z => absurd z.1 (by rw [hgs]; decide))
        refine z_iload_n 29 dX9_held_28 rfl rfl ?_
        refine z_aload_n 30 dX9_held_29 rfl rfl ?_
        refine gX9_153 33 rfl dX9_held_30 rfl ?_
        rw [hlc]
        refine z_icmp_ge 105 36 dX9_held_33 (by decide) rfl (fun h33 => ?_) (fun h33 => ?_)
        · (try rw [nI_leI (by omega) (by omega)] at h33)
          omega
        · (try rw [nI_leI (by omega) (by omega)] at h33)
          refine z_aload_n 37 dX9_held_36 rfl rfl ?_
          refine gX9_32 40 rfl dX9_held_37 rfl ?_
          refine z_iload_n 41 dX9_held_40 rfl rfl ?_
          refine z_aald5 42 dX9_held_41 rfl (by omega) ?_
          refine gX9_350 45 rfl dX9_held_42 rfl (by first | assumption | rfl) ?_
          rw [hg]
          refine z_if_eq 51 48 dX9_held_45 (by decide) rfl (fun h45 => ?_) (fun h45 => ?_)
          · exact absurd h45 (by decide)
          · refine z_goto 99 dX9_held_48 rfl ?_
            refine zs_iinc_3_5_1 102 rfl dX9_held_99 rfl rfl ?_
            rw [nI_add]
            refine z_goto 28 dX9_held_102 rfl ?_
            have hih := ih (i + 1) (by omega) (by omega) y
            rw [er] at hih
            exact hih
      | false =>
        rw [hgs] at hg
        cases hnr : near S (lfS S i) (nI i) (sLc S) with
        | none =>
          have er : wl S (i + 1) = wl S i := wl_n (fun z => by
            have z2 := z.2
            rw [hnr] at z2
            exact absurd (nI_pos' (show (sLf S i).2.2.1 < 2 ^ 31 by omega)) (by rw [← z2]; exact (by decide : ¬ (0 : Int32) ≤ -9)))
          refine z_iload_n 29 dX9_held_28 rfl rfl ?_
          refine z_aload_n 30 dX9_held_29 rfl rfl ?_
          refine gX9_153 33 rfl dX9_held_30 rfl ?_
          rw [hlc]
          refine z_icmp_ge 105 36 dX9_held_33 (by decide) rfl (fun h33 => ?_) (fun h33 => ?_)
          · (try rw [nI_leI (by omega) (by omega)] at h33)
            omega
          · (try rw [nI_leI (by omega) (by omega)] at h33)
            refine z_aload_n 37 dX9_held_36 rfl rfl ?_
            refine gX9_32 40 rfl dX9_held_37 rfl ?_
            refine z_iload_n 41 dX9_held_40 rfl rfl ?_
            refine z_aald5 42 dX9_held_41 rfl (by omega) ?_
            refine gX9_350 45 rfl dX9_held_42 rfl (by first | assumption | rfl) ?_
            rw [hg]
            refine z_if_eq 51 48 dX9_held_45 (by decide) rfl (fun h45 => ?_) (fun h45 => ?_)
            · refine z_aload_n 52 dX9_held_51 rfl rfl ?_
              refine z_aload_n 53 dX9_held_52 rfl rfl ?_
              refine gX9_32 56 rfl dX9_held_53 rfl ?_
              refine z_iload_n 57 dX9_held_56 rfl rfl ?_
              refine z_aald5 58 dX9_held_57 rfl (by omega) ?_
              refine gX9_354 61 rfl dX9_held_58 rfl (by first | assumption | rfl) ?_
              rw [hset]
              refine z_iload_n 62 dX9_held_61 rfl rfl ?_
              refine z_cVI2 65 (tX9_nearestLeaf hW hX (lfS_lt hW hil)) kX9_nearestLeaf dX9_held_62 rfl lX9_338 (by first | assumption | rfl) (Nat.le_of_ble_eq_true rfl) ?_
              rintro x1 _ ⟨e1, e2⟩
              replace e1 : x1 = -9 := e1.trans (by rw [hnr]; rfl)
              subst e1
              replace e2 := e2.symm
              subst e2
              refine zs_istore_4_5 67 rfl dX9_held_65 rfl rfl ?_
              refine z_iload 69 dX9_held_67 rfl rfl ?_
              refine z_bipush 71 (v := (-9)) dX9_held_69 rfl rfl ?_
              refine z_icmp_eq 99 74 dX9_held_71 (by decide) rfl (fun h71 => ?_) (fun h71 => ?_)
              · refine zs_iinc_3_5_1 102 rfl dX9_held_99 rfl rfl ?_
                rw [nI_add]
                refine z_goto 28 dX9_held_102 rfl ?_
                have hih := ih (i + 1) (by omega) (by omega) (some (.int (-9)))
                rw [er] at hih
                exact hih
              · exact absurd rfl h71
            · exact absurd rfl h45
        | some e =>
          have hel := near_lt _ e hnr
          have hee := kd_e (show e < 12 by omega)
          have hew := lfWord hW hel
          have hwe : gi σ (64 + 3 * e) 3 = nI (sLf S e).2.2.1 := (hX.2.2.2.2.1.2 e hel).2.2.1
          refine z_iload_n 29 dX9_held_28 rfl rfl ?_
          refine z_aload_n 30 dX9_held_29 rfl rfl ?_
          refine gX9_153 33 rfl dX9_held_30 rfl ?_
          rw [hlc]
          refine z_icmp_ge 105 36 dX9_held_33 (by decide) rfl (fun h33 => ?_) (fun h33 => ?_)
          · (try rw [nI_leI (by omega) (by omega)] at h33)
            omega
          · (try rw [nI_leI (by omega) (by omega)] at h33)
            refine z_aload_n 37 dX9_held_36 rfl rfl ?_
            refine gX9_32 40 rfl dX9_held_37 rfl ?_
            refine z_iload_n 41 dX9_held_40 rfl rfl ?_
            refine z_aald5 42 dX9_held_41 rfl (by omega) ?_
            refine gX9_350 45 rfl dX9_held_42 rfl (by first | assumption | rfl) ?_
            rw [hg]
            refine z_if_eq 51 48 dX9_held_45 (by decide) rfl (fun h45 => ?_) (fun h45 => ?_)
            · refine z_aload_n 52 dX9_held_51 rfl rfl ?_
              refine z_aload_n 53 dX9_held_52 rfl rfl ?_
              refine gX9_32 56 rfl dX9_held_53 rfl ?_
              refine z_iload_n 57 dX9_held_56 rfl rfl ?_
              refine z_aald5 58 dX9_held_57 rfl (by omega) ?_
              refine gX9_354 61 rfl dX9_held_58 rfl (by first | assumption | rfl) ?_
              rw [hset]
              refine z_iload_n 62 dX9_held_61 rfl rfl ?_
              refine z_cVI2 65 (tX9_nearestLeaf hW hX (lfS_lt hW hil)) kX9_nearestLeaf dX9_held_62 rfl lX9_338 (by first | assumption | rfl) (Nat.le_of_ble_eq_true rfl) ?_
              rintro x1 _ ⟨e1, e2⟩
              replace e1 : x1 = nI e := e1.trans (by rw [hnr]; rfl)
              subst e1
              replace e2 := e2.symm
              subst e2
              refine zs_istore_4_5 67 rfl dX9_held_65 rfl rfl ?_
              refine z_iload 69 dX9_held_67 rfl rfl ?_
              refine z_bipush 71 (v := (-9)) dX9_held_69 rfl rfl ?_
              refine z_icmp_eq 99 74 dX9_held_71 (by decide) rfl (fun h71 => ?_) (fun h71 => ?_)
              · exact absurd (nI_pos' (show e < 2 ^ 31 by omega)) (by rw [h71]; decide)
              · refine z_aload_n 75 dX9_held_74 rfl rfl ?_
                refine gX9_32 78 rfl dX9_held_75 rfl ?_
                refine z_iload 80 dX9_held_78 rfl rfl ?_
                refine z_aald5 81 dX9_held_80 rfl (by omega) ?_
                refine gX9_344 84 rfl dX9_held_81 rfl (by first | assumption | rfl) ?_
                rw [hwe]
                refine z_aload_n 85 dX9_held_84 rfl rfl ?_
                refine gX9_32 88 rfl dX9_held_85 rfl ?_
                refine z_iload_n 89 dX9_held_88 rfl rfl ?_
                refine z_aald5 90 dX9_held_89 rfl (by omega) ?_
                refine gX9_344 93 rfl dX9_held_90 rfl (by first | assumption | rfl) ?_
                rw [hwd]
                refine z_icmp_ne 99 96 dX9_held_93 (by decide) rfl (fun h93 => ?_) (fun h93 => ?_)
                · have er : wl S (i + 1) = wl S i := wl_n (fun z => by (have z2 := z.2; rw [hnr] at z2; exact h93 z2))
                  try rw [nI_add]
                  refine zs_iinc_3_5_1 102 rfl dX9_held_99 rfl rfl ?_
                  rw [nI_add]
                  refine z_goto 28 dX9_held_102 rfl ?_
                  have hih := ih (i + 1) (by omega) (by omega) (some (.int (nI e)))
                  rw [er] at hih
                  exact hih
                · have er : wl S (i + 1) = wl S i + 1 := wl_y ⟨hgs, by rw [hnr]; exact h93⟩
                  refine zs_iinc_2_5_1 99 rfl dX9_held_96 rfl rfl ?_
                  try rw [nI_add]
                  refine zs_iinc_3_5_1 102 rfl dX9_held_99 rfl rfl ?_
                  rw [nI_add]
                  refine z_goto 28 dX9_held_102 rfl ?_
                  have hih := ih (i + 1) (by omega) (by omega) (some (.int (nI e)))
                  rw [er] at hih
                  exact hih
            · exact absurd rfl h45
  refine z_aload_n 1 dX9_held_0 rfl rfl ?_
  refine gX9_153 4 rfl dX9_held_1 rfl ?_
  rw [hlc]
  refine z_aload_n 5 dX9_held_4 rfl rfl ?_
  refine z_cVI0 8 (tX9_guessLeaves hW hX) kX9_guessLeaves dX9_held_5 rfl lX9_347 (by first | assumption | rfl) (Nat.le_of_ble_eq_true rfl) ?_
  rintro _ _ ⟨e1, e2⟩
  replace e1 := e1.symm
  replace e2 := e2.symm
  subst e1
  subst e2
  refine z_isub 9 dX9_held_8 rfl ?_
  rw [nI_sub (by omega), show sLc S - gls S (sLc S) = dls S (sLc S) by omega]
  refine zs_istore_n_1_5 10 rfl dX9_held_9 rfl rfl ?_
  refine z_iload_n 11 dX9_held_10 rfl rfl ?_
  refine z_iconst 12 (v := nI 2) dX9_held_11 rfl rfl ?_
  refine z_icmp_ge 24 15 dX9_held_12 (by decide) rfl (fun h12 => ?_) (fun h12 => ?_)
  · (try rw [nI_leI (by omega) (by omega)] at h12)
    refine z_iconst 25 (v := nI 0) dX9_held_24 rfl rfl ?_
    refine zs_istore_n_2_5 26 rfl dX9_held_25 rfl rfl ?_
    refine z_iconst 27 (v := nI 0) dX9_held_26 rfl rfl ?_
    refine zs_istore_n_3_5 28 rfl dX9_held_27 rfl rfl ?_
    exact loop 0 (Nat.zero_le _) _
  · (try rw [nI_leI (by omega) (by omega)] at h12)
    omega
set_option maxRecDepth 20000 in
theorem tX10_held {E : zE} {d : Nat} {σ : zM} {S : sS} (hW : WF S) (hX : RM S σ) : Ret E mX10_held (d + 2) [zr E 102] σ (qM σ (spHeld S)) := by
  have h12 := hW.2.2.1
  have hb8 := bw_le hW (show 0 < 2 by omega)
  have hgd := gls_dls S (sLc S)
  refine Ret.of [some (zr E 102), none, none, none] (by decide +kernel) (Nat.le_of_ble_eq_true rfl) rfl ?_
  have loop : ∀ i, i ≤ sLc S → ∀ τ, Fr (fun a j => a = 102 ∧ j = 37) σ τ → RM S τ → At E mX10_held (d + 2) (qM σ (spHeld S)) 6 [some (zr E 102), some (.int (nI (dls S i))), some (.int (nI (wl S i))), some (.int (nI i))] [] τ := by
    refine z_up (fun i hi ih τ hF hR => ?_)
    have hlc : gi τ 102 35 = nI (sLc S) := hR.2.2.2.2.1.1
    by_cases hie : i = sLc S
    · subst hie
      by_cases hB : dls S (sLc S) < 2
      · have e0 : spHeld S = _ := if_pos hB
        refine z_iload_n 7 dX10_held_6 rfl rfl ?_
        refine z_aload_n 8 dX10_held_7 rfl rfl ?_
        refine gX10_141 11 rfl dX10_held_8 rfl ?_
        rw [hlc]
        refine z_icmp_ge 60 14 dX10_held_11 (by decide) rfl (fun h11 => ?_) (fun h11 => ?_)
        · (try rw [nI_leI (by omega) (by omega)] at h11)
          refine z_iload_n 61 dX10_held_60 rfl rfl ?_
          refine z_iconst 62 (v := nI 2) dX10_held_61 rfl rfl ?_
          refine z_icmp_ge 73 65 dX10_held_62 (by decide) rfl (fun h62 => ?_) (fun h62 => ?_)
          · (try rw [nI_leI (by omega) (by omega)] at h62)
            omega
          · (try rw [nI_leI (by omega) (by omega)] at h62)
            refine z_aload_n 66 dX10_held_65 rfl rfl ?_
            refine z_iconst 67 (v := nI 4) dX10_held_66 rfl rfl ?_
            refine z_cVI1 70 (tX10_meets (by omega)) kX10_meets dX10_held_67 rfl lX10_99 (by first | assumption | rfl) (Nat.le_of_ble_eq_true rfl) ?_
            rintro _ _ ⟨e1, e2⟩
            replace e1 := e1.symm
            replace e2 := e2.symm
            subst e1
            subst e2
            refine z_goto 79 dX10_held_70 rfl ?_
            refine z_ri dX10_held_79 rfl ?_
            exact qmf hW e0 (by decide) hR (hF.mono (by intros; omega))
        · (try rw [nI_leI (by omega) (by omega)] at h11)
          omega
      · have e0 : spHeld S = _ := if_neg hB
        refine z_iload_n 7 dX10_held_6 rfl rfl ?_
        refine z_aload_n 8 dX10_held_7 rfl rfl ?_
        refine gX10_141 11 rfl dX10_held_8 rfl ?_
        rw [hlc]
        refine z_icmp_ge 60 14 dX10_held_11 (by decide) rfl (fun h11 => ?_) (fun h11 => ?_)
        · (try rw [nI_leI (by omega) (by omega)] at h11)
          refine z_iload_n 61 dX10_held_60 rfl rfl ?_
          refine z_iconst 62 (v := nI 2) dX10_held_61 rfl rfl ?_
          refine z_icmp_ge 73 65 dX10_held_62 (by decide) rfl (fun h62 => ?_) (fun h62 => ?_)
          · (try rw [nI_leI (by omega) (by omega)] at h62)
            refine z_aload_n 74 dX10_held_73 rfl rfl ?_
            refine z_iload_n 75 dX10_held_74 rfl rfl ?_
            refine z_iload_n 76 dX10_held_75 rfl rfl ?_
            refine z_cVI2 79 (tX10_ask) kX10_ask dX10_held_76 rfl lX10_117 (by first | assumption | rfl) (Nat.le_of_ble_eq_true rfl) ?_
            rintro _ _ ⟨e1, e2⟩
            replace e1 := e1.symm
            replace e2 := e2.symm
            subst e1
            subst e2
            refine z_ri dX10_held_79 rfl ?_
            exact qma hW e0 hR (hF.mono (by intros; omega))
          · (try rw [nI_leI (by omega) (by omega)] at h62)
            omega
        · (try rw [nI_leI (by omega) (by omega)] at h11)
          omega
    · have hil : i < sLc S := by omega
      obtain ⟨l1, l2, l3, l4, l5, l6, l7⟩ := hR.2.2.2.2.1.2 i hil
      have hg : gi τ 124 (12 * i + 0) = bI (sLf S i).1 := l1
      have hset : gi τ 124 (12 * i + 3) = nI (lfS S i) := l4
      have hww := lfWord hW hil
      have ed : dls S (i + 1) = dls S i + if (sLf S i).1 = false then 1 else 0 := rfl
      cases hgs : (sLf S i).1 with
      | true =>
        rw [hgs] at hg
        rw [hgs, if_neg (by decide), Nat.add_zero] at ed
        have er : wl S (i + 1) = wl S i := wl_n (fun z => absurd z.1 (by rw [hgs]; decide))
        refine z_iload_n 7 dX10_held_6 rfl rfl ?_
        refine z_aload_n 8 dX10_held_7 rfl rfl ?_
        refine gX10_141 11 rfl dX10_held_8 rfl ?_
        rw [hlc]
        refine z_icmp_ge 60 14 dX10_held_11 (by decide) rfl (fun h11 => ?_) (fun h11 => ?_)
        · (try rw [nI_leI (by omega) (by omega)] at h11)
          omega
        · (try rw [nI_leI (by omega) (by omega)] at h11)
          refine z_aload_n 15 dX10_held_14 rfl rfl ?_
          refine z_iload_n 16 dX10_held_15 rfl rfl ?_
          refine z_iconst 17 (v := nI 0) dX10_held_16 rfl rfl ?_
          refine z_cVI2 20 (tX10_leafTells (by omega) (by omega)) kX10_leafTells dX10_held_17 rfl lX10_304 (by first | assumption | rfl) (Nat.le_of_ble_eq_true rfl) ?_
          rintro _ _ ⟨e1, e2⟩
          replace e1 := e1.symm
          replace e2 := e2.symm
          subst e1
          subst e2
          rw [hg]
          refine z_if_ne 54 23 dX10_held_20 (by decide) rfl (fun h20 => ?_) (fun h20 => ?_)
          · refine zs_iinc_3_4_1 57 rfl dX10_held_54 rfl rfl ?_
            rw [nI_add]
            refine z_goto 6 dX10_held_57 rfl ?_
            have hih := ih (i + 1) (by omega) (by omega) τ hF hR
            rw [er, ed] at hih
            exact hih
          · exact absurd h20 (by decide)
      | false =>
        rw [hgs] at hg
        rw [hgs, if_pos rfl] at ed
        refine z_iload_n 7 dX10_held_6 rfl rfl ?_
        refine z_aload_n 8 dX10_held_7 rfl rfl ?_
        refine gX10_141 11 rfl dX10_held_8 rfl ?_
        rw [hlc]
        refine z_icmp_ge 60 14 dX10_held_11 (by decide) rfl (fun h11 => ?_) (fun h11 => ?_)
        · (try rw [nI_leI (by omega) (by omega)] at h11)
          omega
        · (try rw [nI_leI (by omega) (by omega)] at h11)
          refine z_aload_n 15 dX10_held_14 rfl rfl ?_
          refine z_iload_n 16 dX10_held_15 rfl rfl ?_
          refine z_iconst 17 (v := nI 0) dX10_held_16 rfl rfl ?_
          refine z_cVI2 20 (tX10_leafTells (by omega) (by omega)) kX10_leafTells dX10_held_17 rfl lX10_304 (by first | assumption | rfl) (Nat.le_of_ble_eq_true rfl) ?_
          rintro _ _ ⟨e1, e2⟩
          replace e1 := e1.symm
          replace e2 := e2.symm
          subst e1
          subst e2
          rw [hg]
          refine z_if_ne 54 23 dX10_held_20 (by decide) rfl (fun h20 => ?_) (fun h20 => ?_)
          · exact absurd rfl h20
          · refine zs_iinc_1_4_1 26 rfl dX10_held_23 rfl rfl ?_
            rw [nI_add]
            refine z_iload_n 27 dX10_held_26 rfl rfl ?_
            refine z_aload_n 28 dX10_held_27 rfl rfl ?_
            refine z_aload_n 29 dX10_held_28 rfl rfl ?_
            refine z_iload_n 30 dX10_held_29 rfl rfl ?_
            refine z_iconst 31 (v := nI 3) dX10_held_30 rfl rfl ?_
            refine z_cVI2 34 (tX10_leafTells (by omega) (by omega)) kX10_leafTells dX10_held_31 rfl lX10_304 (by first | assumption | rfl) (Nat.le_of_ble_eq_true rfl) ?_
            rintro _ _ ⟨e1, e2⟩
            replace e1 := e1.symm
            replace e2 := e2.symm
            subst e1
            subst e2
            rw [hset]
            refine z_iload_n 35 dX10_held_34 rfl rfl ?_
            refine z_cVI2 38 (tX10_takes hW hR (lfS_lt hW hil)) kX10_takes dX10_held_35 rfl lX10_322 (by first | assumption | rfl) (Nat.le_of_ble_eq_true rfl) ?_
            rintro x1 τ1 ⟨e1, hF1, hX1, hU1⟩
            subst e1
            have hwd : gi τ1 124 (12 * i + 2) = nI (sLf S i).2.2.1 := (hX1.2.2.2.2.1.2 i hil).2.2.1
            refine z_aload_n 39 dX10_held_38 rfl rfl ?_
            refine z_iload_n 40 dX10_held_39 rfl rfl ?_
            refine z_iconst 41 (v := nI 2) dX10_held_40 rfl rfl ?_
            refine z_cVI2 44 (tX10_leafTells (by omega) (by omega)) kX10_leafTells dX10_held_41 rfl lX10_304 (by first | assumption | rfl) (Nat.le_of_ble_eq_true rfl) ?_
            rintro _ _ ⟨e1, e2⟩
            replace e1 := e1.symm
            replace e2 := e2.symm
            subst e1
            subst e2
            rw [hwd]
            refine z_icmp_ne 51 47 dX10_held_44 (by decide) rfl (fun h44 => ?_) (fun h44 => ?_)
            · have er : wl S (i + 1) = wl S i + 0 := wl_n (fun z => h44 z.2)
              refine z_iconst 52 (v := nI 0) dX10_held_51 rfl rfl ?_
              refine z_iadd 53 dX10_held_52 rfl ?_
              rw [nI_add]
              refine zs_istore_n_2_4 54 rfl dX10_held_53 rfl rfl ?_
              refine zs_iinc_3_4_1 57 rfl dX10_held_54 rfl rfl ?_
              rw [nI_add]
              refine z_goto 6 dX10_held_57 rfl ?_
              have hih := ih (i + 1) (by omega) (by omega) τ1 (hF.tr hF1 (fun _ _ h => h) (fun _ _ h => h)) hX1
              rw [er, ed] at hih
              exact hih
            · have er : wl S (i + 1) = wl S i + 1 := wl_y ⟨hgs, h44⟩
              refine z_iconst 48 (v := nI 1) dX10_held_47 rfl rfl ?_
              refine z_goto 52 dX10_held_48 rfl ?_
              refine z_iadd 53 dX10_held_52 rfl ?_
              rw [nI_add]
              refine zs_istore_n_2_4 54 rfl dX10_held_53 rfl rfl ?_
              refine zs_iinc_3_4_1 57 rfl dX10_held_54 rfl rfl ?_
              rw [nI_add]
              refine z_goto 6 dX10_held_57 rfl ?_
              have hih := ih (i + 1) (by omega) (by omega) τ1 (hF.tr hF1 (fun _ _ h => h) (fun _ _ h => h)) hX1
              rw [er, ed] at hih
              exact hih
  refine z_iconst 1 (v := nI 0) dX10_held_0 rfl rfl ?_
  refine zs_istore_n_1_4 2 rfl dX10_held_1 rfl rfl ?_
  refine z_iconst 3 (v := nI 0) dX10_held_2 rfl rfl ?_
  refine zs_istore_n_2_4 4 rfl dX10_held_3 rfl rfl ?_
  refine z_iconst 5 (v := nI 0) dX10_held_4 rfl rfl ?_
  refine zs_istore_n_3_4 6 rfl dX10_held_5 rfl rfl ?_
  exact loop 0 (Nat.zero_le _) σ Fr.rf hX
