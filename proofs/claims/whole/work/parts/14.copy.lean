/-! mean of the reference; copy of both -/
set_option maxRecDepth 20000 in
theorem tX10_mean {E : zE} {d : Nat} {σ : zM} {S : sS} {r : Int32} (hW : WF S) (hX : RM S σ) : Ret E mX10_mean (d + 3) [zr E 102, .int r] σ (qM σ (spMean S r)) := by
  by_cases h0 : inN r 6
  · obtain ⟨r, hr, rfl⟩ := inN_of h0
    have hc : r < 2 ^ 31 := by omega
    have e0 : spMean S (nI r) = if sR S r = none then sFd S 1 else if sSz (sR S r) = 0 then sFd S 4 else sAsk S (tot (sGet (sR S r)) (sSz (sR S r)) / lN (sSz (sR S r))).toInt32 (nI 1) := (if_neg (fun q => q h0)).trans (by rw [nI_clamp hc])
    cases ho : sR S r with
    | none =>
      rw [if_pos ho] at e0
      refine Ret.of [some (zr E 102), some (.int (nI r)), none, none, none, none] (by decide +kernel) (Nat.le_of_ble_eq_true rfl) rfl ?_
      refine z_aload_n 1 dX10_mean_0 rfl rfl ?_
      refine z_iload_n 2 dX10_mean_1 rfl rfl ?_
      refine z_cVI1 5 (tX10_aR2 hr hX ho) kX10_askedRow dX10_mean_2 rfl lX10_110 (by first | assumption | rfl) (Nat.le_of_ble_eq_true rfl) ?_
      rintro _ _ ⟨e1, e2⟩
      replace e1 := e1.symm
      replace e2 := e2.symm
      subst e1
      subst e2
      refine zs_istore_n_2_6 6 rfl dX10_mean_5 rfl rfl ?_
      refine z_iload_n 7 dX10_mean_6 rfl rfl ?_
      refine z_if_ge 12 10 dX10_mean_7 (by decide) rfl (fun h7 => ?_) (fun h7 => ?_)
      · (try rw [nI_ge0 (by omega)] at h7)
        exact absurd h7 (by decide)
      · (try rw [nI_ge0 (by omega)] at h7)
        refine z_iload_n 11 dX10_mean_10 rfl rfl ?_
        refine z_ri dX10_mean_11 rfl ?_
        exact qmf hW e0 (by decide) hX Fr.rf
    | some q =>
      rw [if_neg (by rw [ho]; exact fun h => by cases h), ho] at e0
      have hS : mSh σ 104 105 r 40 (some q) := by rw [← ho]; exact hX.1 r hr
      have h40 := hS.1
      have hs : gi σ 104 r = nI q.1 := hS.2.1
      refine Ret.of [some (zr E 102), some (.int (nI r)), none, none, none, none] (by decide +kernel) (Nat.le_of_ble_eq_true rfl) rfl ?_
      have loop : ∀ i, i ≤ q.1 → At E mX10_mean (d + 3) (qM σ (spMean S (nI r))) 17 [some (zr E 102), some (.int (nI r)), none, some (.long (tot q.2 i)), none, some (.int (nI i))] [] σ := by
        refine z_up (fun i hi ih => ?_)
        refine z_iload 19 dX10_mean_17 rfl rfl ?_
        refine z_aload_n 20 dX10_mean_19 rfl rfl ?_
        refine gX10_17 23 rfl dX10_mean_20 rfl ?_
        refine z_iload_n 24 dX10_mean_23 rfl rfl ?_
        refine z_ialdn 25 dX10_mean_24 rfl (by first | assumption | rfl) (by omega) ?_
        rw [hs]
        refine z_icmp_ge 45 28 dX10_mean_25 (by decide) rfl (fun h25 => ?_) (fun h25 => ?_)
        · (try rw [nI_leI (by omega) (by omega)] at h25)
          have hiq : i = q.1 := by omega
          subst hiq
          refine z_aload_n 46 dX10_mean_45 rfl rfl ?_
          refine gX10_17 49 rfl dX10_mean_46 rfl ?_
          refine z_iload_n 50 dX10_mean_49 rfl rfl ?_
          refine z_ialdn 51 dX10_mean_50 rfl (by first | assumption | rfl) (by omega) ?_
          rw [hs]
          refine z_if_ne 62 54 dX10_mean_51 (by decide) rfl (fun h51 => ?_) (fun h51 => ?_)
          · (try rw [nI_eq0 (by omega)] at h51)
            refine z_aload_n 63 dX10_mean_62 rfl rfl ?_
            refine z_lload_n 64 dX10_mean_63 rfl rfl ?_
            refine z_aload_n 65 dX10_mean_64 rfl rfl ?_
            refine gX10_17 68 rfl dX10_mean_65 rfl ?_
            refine z_iload_n 69 dX10_mean_68 rfl rfl ?_
            refine z_ialdn 70 dX10_mean_69 rfl (by first | assumption | rfl) (by omega) ?_
            rw [hs]
            refine z_i2l 71 dX10_mean_70 rfl ?_
            rw [nI_l (by omega)]
            refine z_ldiv 72 dX10_mean_71 rfl (fun z => h51 ((lN_eq (by omega) (by decide)).mp z)) ?_
            refine z_l2i 73 dX10_mean_72 rfl ?_
            refine z_iconst 74 (v := nI 1) dX10_mean_73 rfl rfl ?_
            refine z_cVI2 77 (tX10_ask) kX10_ask dX10_mean_74 rfl lX10_117 (by first | assumption | rfl) (Nat.le_of_ble_eq_true rfl) ?_
            rintro _ _ ⟨e1, e2⟩
            replace e1 := e1.symm
            replace e2 := e2.symm
            subst e1
            subst e2
            refine z_ri dX10_mean_77 rfl ?_
            first | exact qmf hW (e0.trans (if_pos h51)) (by decide) hX Fr.rf | exact qma hW (e0.trans (if_neg h51)) hX Fr.rf
          · (try rw [nI_eq0 (by omega)] at h51)
            refine z_aload_n 55 dX10_mean_54 rfl rfl ?_
            refine z_iconst 56 (v := nI 4) dX10_mean_55 rfl rfl ?_
            refine z_cVI1 59 (tX10_meets (by omega)) kX10_meets dX10_mean_56 rfl lX10_99 (by first | assumption | rfl) (Nat.le_of_ble_eq_true rfl) ?_
            rintro _ _ ⟨e1, e2⟩
            replace e1 := e1.symm
            replace e2 := e2.symm
            subst e1
            subst e2
            refine z_goto 77 dX10_mean_59 rfl ?_
            refine z_ri dX10_mean_77 rfl ?_
            first | exact qmf hW (e0.trans (if_pos h51)) (by decide) hX Fr.rf | exact qma hW (e0.trans (if_neg h51)) hX Fr.rf
        · (try rw [nI_leI (by omega) (by omega)] at h25)
          refine z_lload_n 29 dX10_mean_28 rfl rfl ?_
          refine z_aload_n 30 dX10_mean_29 rfl rfl ?_
          refine z_iload_n 31 dX10_mean_30 rfl rfl ?_
          refine z_iload 33 dX10_mean_31 rfl rfl ?_
          refine z_cVI2 36 (tX10_rowAt (by omega) (by omega)) kX10_rowAt dX10_mean_33 rfl lX10_113 (by first | assumption | rfl) (Nat.le_of_ble_eq_true rfl) ?_
          rintro _ _ ⟨e1, e2⟩
          replace e1 := e1.symm
          replace e2 := e2.symm
          subst e1
          subst e2
          rw [hS.2.2 i (by omega)]
          refine z_i2l 37 dX10_mean_36 rfl ?_
          refine z_ladd 38 dX10_mean_37 rfl ?_
          refine zs_lstore_n_3_6 39 rfl dX10_mean_38 rfl rfl ?_
          refine zs_iinc_5_6_1 42 rfl dX10_mean_39 rfl rfl ?_
          rw [nI_add]
          refine z_goto 17 dX10_mean_42 rfl ?_
          exact ih (i + 1) (by omega) (by omega)
      refine z_aload_n 1 dX10_mean_0 rfl rfl ?_
      refine z_iload_n 2 dX10_mean_1 rfl rfl ?_
      refine z_cVI1 5 (tX10_aR3 hr hX ho) kX10_askedRow dX10_mean_2 rfl lX10_110 (by first | assumption | rfl) (Nat.le_of_ble_eq_true rfl) ?_
      rintro _ _ ⟨e1, e2⟩
      replace e1 := e1.symm
      replace e2 := e2.symm
      subst e1
      subst e2
      refine zs_istore_n_2_6 6 rfl dX10_mean_5 rfl rfl ?_
      refine z_iload_n 7 dX10_mean_6 rfl rfl ?_
      refine z_if_ge 12 10 dX10_mean_7 (by decide) rfl (fun h7 => ?_) (fun h7 => ?_)
      · refine z_lconst 13 (v := 0) dX10_mean_12 rfl rfl ?_
        refine zs_lstore_n_3_6 14 rfl dX10_mean_13 rfl rfl ?_
        refine z_iconst 15 (v := nI 0) dX10_mean_14 rfl rfl ?_
        refine zs_istore_5_6 17 rfl dX10_mean_15 rfl rfl ?_
        refine z_sub [some (zr E 102), some (.int (nI r)), none, some (.long (tot q.2 0)), none, some (.int (nI 0))] ⟨rfl, rfl, rfl, rfl, trivial⟩ ?_
        exact loop 0 (Nat.zero_le _)
      · exact absurd (nI_pos' (by decide)) h7
  · refine Ret.of [some (zr E 102), some (.int r), none, none, none, none] (by decide +kernel) (Nat.le_of_ble_eq_true rfl) rfl ?_
    refine z_aload_n 1 dX10_mean_0 rfl rfl ?_
    refine z_iload_n 2 dX10_mean_1 rfl rfl ?_
    refine z_cVI1 5 (tX10_aR1 h0) kX10_askedRow dX10_mean_2 rfl lX10_110 (by first | assumption | rfl) (Nat.le_of_ble_eq_true rfl) ?_
    rintro _ _ ⟨e1, e2⟩
    replace e1 := e1.symm
    replace e2 := e2.symm
    subst e1
    subst e2
    refine zs_istore_n_2_6 6 rfl dX10_mean_5 rfl rfl ?_
    refine z_iload_n 7 dX10_mean_6 rfl rfl ?_
    refine z_if_ge 12 10 dX10_mean_7 (by decide) rfl (fun h7 => ?_) (fun h7 => ?_)
    · (try rw [nI_ge0 (by omega)] at h7)
      exact absurd h7 (by decide)
    · (try rw [nI_ge0 (by omega)] at h7)
      refine z_iload_n 11 dX10_mean_10 rfl rfl ?_
      refine z_ri dX10_mean_11 rfl ?_
      exact qm0 (if_pos h0) hX Fr.rf
abbrev rng (sz : Nat) (i n : Int32) : Prop := ¬ i < 0 ∧ i.toNatClampNeg + n.toNatClampNeg ≤ sz
def cpR (o t : sRow) (i j n : Nat) : sRow := match t with
  | none => none
  | some q => some (q.1, fun k => if j ≤ k ∧ k < j + n then sGet o (i + (k - j)) else q.2 k)
def spCopy (S : sS) (r i t j n : Int32) : Int32 × sS := if ¬ inN r 6 ∨ ¬ inN t 6 then (-1, S) else if n < 0 then sFd S 5 else if sR S r.toNatClampNeg = none ∨ sR S t.toNatClampNeg = none then sFd S 1 else
  if ¬ rng (sSz (sR S r.toNatClampNeg)) i n ∨ ¬ rng (sSz (sR S t.toNatClampNeg)) j n then sFd S 2 else (nI 1, setR S t.toNatClampNeg (cpR (sR S r.toNatClampNeg) (sR S t.toNatClampNeg) i.toNatClampNeg j.toNatClampNeg n.toNatClampNeg))
set_option maxRecDepth 20000 in
theorem tX7_hasRange {E : zE} {d : Nat} {σ : zM} {a cap : Nat} {q : Nat × (Nat → Int32)} {i : Int32} {n : Nat} (hk : (kd a).1 = 7) (hk1 : kd (a + 1) = (11, cap)) (hS : Sh σ a cap (some q)) (hn : n < 2 ^ 31) : Ret E mX7_hasRange d [zr E a, .int i, .int (nI n)] σ (qI fun x τ => x = bI (decide (rng q.1 i (nI n))) ∧ τ = σ) := by
  have hc := cap_lt hk1
  have hq := hS.1
  have hs : gi σ a 1 = nI q.1 := hS.2.1
  refine Ret.of [some (zr E a), some (.int i), some (.int (nI n))] (by decide +kernel) (Nat.le_of_ble_eq_true rfl) rfl ?_
  refine z_iload_n 1 dX7_hasRange_0 rfl rfl ?_
  refine z_if_lt 30 4 dX7_hasRange_1 (by decide) rfl (fun h1 => ?_) (fun h1 => ?_)
  · have z : ¬ rng q.1 i (nI n) := fun z => z.1 h1
    refine z_iconst 31 (v := nI 0) dX7_hasRange_30 rfl rfl ?_
    refine z_rz dX7_hasRange_31 rfl (by first | exact Or.inl rfl | exact Or.inr rfl | exact bI_01 _ | assumption) ?_
    first | exact ⟨bI_t z, rfl⟩ | exact ⟨bI_f z, rfl⟩
  · obtain ⟨i, hi, rfl⟩ := nI_of h1
    refine z_iload_n 5 dX7_hasRange_4 rfl rfl ?_
    refine z_if_lt 30 8 dX7_hasRange_5 (by decide) rfl (fun h5 => ?_) (fun h5 => ?_)
    · exact absurd h5 (nI_pos hn)
    · refine z_iload_n 9 dX7_hasRange_8 rfl rfl ?_
      refine z_aload_n 10 dX7_hasRange_9 rfl rfl ?_
      refine gX7_9 13 rfl dX7_hasRange_10 rfl (by first | assumption | rfl) ?_
      rw [hs]
      refine z_icmp_gt 30 16 dX7_hasRange_13 (by decide) rfl (fun h13 => ?_) (fun h13 => ?_)
      · (try rw [nI_ltI (by omega) (by omega)] at h13)
        have z : ¬ rng q.1 (nI i) (nI n) := fun z => by have := z.2; rw [nI_clamp hi] at this; omega
        refine z_iconst 31 (v := nI 0) dX7_hasRange_30 rfl rfl ?_
        refine z_rz dX7_hasRange_31 rfl (by first | exact Or.inl rfl | exact Or.inr rfl | exact bI_01 _ | assumption) ?_
        first | exact ⟨bI_t z, rfl⟩ | exact ⟨bI_f z, rfl⟩
      · (try rw [nI_ltI (by omega) (by omega)] at h13)
        refine z_iload_n 17 dX7_hasRange_16 rfl rfl ?_
        refine z_aload_n 18 dX7_hasRange_17 rfl rfl ?_
        refine gX7_9 21 rfl dX7_hasRange_18 rfl (by first | assumption | rfl) ?_
        rw [hs]
        refine z_iload_n 22 dX7_hasRange_21 rfl rfl ?_
        refine z_isub 23 dX7_hasRange_22 rfl ?_
        rw [show nI q.1 - nI i = nI (q.1 - i) by rw [show q.1 = (q.1 - i) + i by omega, ← nI_add, Int32.add_sub_cancel]; congr 1; omega]
        refine z_icmp_gt 30 26 dX7_hasRange_23 (by decide) rfl (fun h23 => ?_) (fun h23 => ?_)
        · (try rw [nI_ltI (by omega) (by omega)] at h23)
          have z : ¬ rng q.1 (nI i) (nI n) := fun z => by have := z.2; rw [nI_clamp hi, nI_clamp hn] at this; omega
          refine z_iconst 31 (v := nI 0) dX7_hasRange_30 rfl rfl ?_
          refine z_rz dX7_hasRange_31 rfl (by first | exact Or.inl rfl | exact Or.inr rfl | exact bI_01 _ | assumption) ?_
          first | exact ⟨bI_t z, rfl⟩ | exact ⟨bI_f z, rfl⟩
        · (try rw [nI_ltI (by omega) (by omega)] at h23)
          have z : rng q.1 (nI i) (nI n) := ⟨nI_pos hi, by rw [nI_clamp hi, nI_clamp hn]; omega⟩
          refine z_iconst 27 (v := nI 1) dX7_hasRange_26 rfl rfl ?_
          refine z_goto 31 dX7_hasRange_27 rfl ?_
          refine z_rz dX7_hasRange_31 rfl (by first | exact Or.inl rfl | exact Or.inr rfl | exact bI_01 _ | assumption) ?_
          first | exact ⟨bI_t z, rfl⟩ | exact ⟨bI_f z, rfl⟩
set_option maxRecDepth 20000 in
theorem tX9_copy {E : zE} {d : Nat} {σ : zM} {S : sS} {r i t j n : Int32} (hW : WF S) (hX : RX S σ) : Ret E mX9_copy (d + 1) [zr E 0, .int r, .int i, .int t, .int j, .int n] σ (qX σ (spCopy S r i t j n)) := by
  by_cases hA : ¬ inN r 6 ∨ ¬ inN t 6
  · refine Ret.of [some (zr E 0), some (.int r), some (.int i), some (.int t), some (.int j), some (.int n)] (by decide +kernel) (Nat.le_of_ble_eq_true rfl) rfl ?_
    refine z_iload_n 1 dX9_copy_0 rfl rfl ?_
    refine z_cSI1 4 (tX9_isRow) kX9_isRow dX9_copy_1 rfl lX9_83 (Nat.le_of_ble_eq_true rfl) ?_
    rintro _ _ ⟨e1, e2⟩
    replace e1 := e1.symm
    replace e2 := e2.symm
    subst e1
    subst e2
    refine z_ifb_eq 14 7 dX9_copy_4 (by decide) rfl (fun h4 => ?_) (fun h4 => ?_)
    · refine z_iconst 15 (v := (-1)) dX9_copy_14 rfl rfl ?_
      refine z_ri dX9_copy_15 rfl ?_
      exact qx0 (if_pos hA) hX Fr.rf
    · refine z_iload_n 8 dX9_copy_7 rfl rfl ?_
      refine z_cSI1 11 (tX9_isRow) kX9_isRow dX9_copy_8 rfl lX9_83 (Nat.le_of_ble_eq_true rfl) ?_
      rintro _ _ ⟨e1, e2⟩
      replace e1 := e1.symm
      replace e2 := e2.symm
      subst e1
      subst e2
      refine z_ifb_ne 16 14 dX9_copy_11 (by decide) rfl (fun h11 => ?_) (fun h11 => ?_)
      · exact absurd hA (fun z => z.elim (fun q => q h4) (fun q => q h11))
      · refine z_iconst 15 (v := (-1)) dX9_copy_14 rfl rfl ?_
        refine z_ri dX9_copy_15 rfl ?_
        exact qx0 (if_pos hA) hX Fr.rf
  have hA1 : inN r 6 := Classical.byContradiction fun q => hA (Or.inl q)
  have hA2 : inN t 6 := Classical.byContradiction fun q => hA (Or.inr q)
  have hA1' := hA1
  have hA2' := hA2
  obtain ⟨r, hr, rfl⟩ := inN_of hA1
  obtain ⟨t, ht, rfl⟩ := inN_of hA2
  have e0 : spCopy S (nI r) i (nI t) j n = _ := if_neg hA
  rw [nI_clamp (by omega), nI_clamp (by omega)] at e0
  have hk := kd_r hr
  have hk1 := kd_r1 hr
  have hkt := kd_r ht
  have hkt1 := kd_r1 ht
  have hS : Sh σ (24 + 2 * r) 40 (sR S r) := hX.1 r hr
  have hT : Sh σ (24 + 2 * t) 40 (sR S t) := hX.1 t ht
  by_cases hB : n < 0
  · refine Ret.of [some (zr E 0), some (.int (nI r)), some (.int i), some (.int (nI t)), some (.int j), some (.int n)] (by decide +kernel) (Nat.le_of_ble_eq_true rfl) rfl ?_
    refine z_iload_n 1 dX9_copy_0 rfl rfl ?_
    refine z_cSI1 4 (tX9_isRow) kX9_isRow dX9_copy_1 rfl lX9_83 (Nat.le_of_ble_eq_true rfl) ?_
    rintro _ _ ⟨e1, e2⟩
    replace e1 := e1.symm
    replace e2 := e2.symm
    subst e1
    subst e2
    refine z_ifb_eq 14 7 dX9_copy_4 (by decide) rfl (fun h4 => ?_) (fun h4 => ?_)
    · exact absurd hA1' h4
    · refine z_iload_n 8 dX9_copy_7 rfl rfl ?_
      refine z_cSI1 11 (tX9_isRow) kX9_isRow dX9_copy_8 rfl lX9_83 (Nat.le_of_ble_eq_true rfl) ?_
      rintro _ _ ⟨e1, e2⟩
      replace e1 := e1.symm
      replace e2 := e2.symm
      subst e1
      subst e2
      refine z_ifb_ne 16 14 dX9_copy_11 (by decide) rfl (fun h11 => ?_) (fun h11 => ?_)
      · refine z_iload 18 dX9_copy_16 rfl rfl ?_
        refine z_if_ge 30 21 dX9_copy_18 (by decide) rfl (fun h18 => ?_) (fun h18 => ?_)
        · exact absurd hB (Int32.not_lt.mpr h18)
        · refine z_aload_n 22 dX9_copy_21 rfl rfl ?_
          refine gX9_39 25 rfl dX9_copy_22 rfl ?_
          refine z_iconst 26 (v := nI 5) dX9_copy_25 rfl rfl ?_
          refine z_cVI1 29 (tX0_found (by omega) (by omega)) kX0_found dX9_copy_26 rfl lX9_87 (by first | assumption | rfl) (Nat.le_of_ble_eq_true rfl) ?_
          rintro _ _ ⟨e1, e2⟩
          replace e1 := e1.symm
          replace e2 := e2.symm
          subst e1
          subst e2
          refine z_ri dX9_copy_29 rfl ?_
          exact qxf hW (e0.trans (if_pos hB)) (by decide) hX Fr.rf
      · exact absurd hA2' h11
  obtain ⟨n, hn, rfl⟩ := nI_of hB
  rw [if_neg hB] at e0
  by_cases hN : sR S r = none ∨ sR S t = none
  · refine Ret.of [some (zr E 0), some (.int (nI r)), some (.int i), some (.int (nI t)), some (.int j), some (.int (nI n))] (by decide +kernel) (Nat.le_of_ble_eq_true rfl) rfl ?_
    refine z_iload_n 1 dX9_copy_0 rfl rfl ?_
    refine z_cSI1 4 (tX9_isRow) kX9_isRow dX9_copy_1 rfl lX9_83 (Nat.le_of_ble_eq_true rfl) ?_
    rintro _ _ ⟨e1, e2⟩
    replace e1 := e1.symm
    replace e2 := e2.symm
    subst e1
    subst e2
    refine z_ifb_eq 14 7 dX9_copy_4 (by decide) rfl (fun h4 => ?_) (fun h4 => ?_)
    · exact absurd hA1' h4
    · refine z_iload_n 8 dX9_copy_7 rfl rfl ?_
      refine z_cSI1 11 (tX9_isRow) kX9_isRow dX9_copy_8 rfl lX9_83 (Nat.le_of_ble_eq_true rfl) ?_
      rintro _ _ ⟨e1, e2⟩
      replace e1 := e1.symm
      replace e2 := e2.symm
      subst e1
      subst e2
      refine z_ifb_ne 16 14 dX9_copy_11 (by decide) rfl (fun h11 => ?_) (fun h11 => ?_)
      · refine z_iload 18 dX9_copy_16 rfl rfl ?_
        refine z_if_ge 30 21 dX9_copy_18 (by decide) rfl (fun h18 => ?_) (fun h18 => ?_)
        · refine z_aload_n 31 dX9_copy_30 rfl rfl ?_
          refine gX9_11 34 rfl dX9_copy_31 rfl ?_
          refine z_iload_n 35 dX9_copy_34 rfl rfl ?_
          refine z_aald1 36 dX9_copy_35 rfl (by omega) ?_
          refine z_cVI0 39 (tX7_isM (by first | assumption | rfl) (by first | assumption | rfl) (by first | assumption | rfl)) kX7_isMissing dX9_copy_36 rfl lX9_107 (by first | assumption | rfl) (Nat.le_of_ble_eq_true rfl) ?_
          rintro _ _ ⟨e1, e2⟩
          replace e1 := e1.symm
          replace e2 := e2.symm
          subst e1
          subst e2
          refine z_ifb_ne 54 42 dX9_copy_39 (by decide) rfl (fun h39 => ?_) (fun h39 => ?_)
          · refine z_aload_n 55 dX9_copy_54 rfl rfl ?_
            refine gX9_39 58 rfl dX9_copy_55 rfl ?_
            refine z_iconst 59 (v := nI 1) dX9_copy_58 rfl rfl ?_
            refine z_cVI1 62 (tX0_found (by omega) (by omega)) kX0_found dX9_copy_59 rfl lX9_87 (by first | assumption | rfl) (Nat.le_of_ble_eq_true rfl) ?_
            rintro _ _ ⟨e1, e2⟩
            replace e1 := e1.symm
            replace e2 := e2.symm
            subst e1
            subst e2
            refine z_ri dX9_copy_62 rfl ?_
            exact qxf hW (e0.trans (if_pos hN)) (by decide) hX Fr.rf
          · refine z_aload_n 43 dX9_copy_42 rfl rfl ?_
            refine gX9_11 46 rfl dX9_copy_43 rfl ?_
            refine z_iload_n 47 dX9_copy_46 rfl rfl ?_
            refine z_aald1 48 dX9_copy_47 rfl (by omega) ?_
            refine z_cVI0 51 (tX7_isM (by first | assumption | rfl) (by first | assumption | rfl) (by first | assumption | rfl)) kX7_isMissing dX9_copy_48 rfl lX9_107 (by first | assumption | rfl) (Nat.le_of_ble_eq_true rfl) ?_
            rintro _ _ ⟨e1, e2⟩
            replace e1 := e1.symm
            replace e2 := e2.symm
            subst e1
            subst e2
            refine z_ifb_eq 63 54 dX9_copy_51 (by decide) rfl (fun h51 => ?_) (fun h51 => ?_)
            · exact absurd hN (fun z => z.elim h39 h51)
            · refine z_aload_n 55 dX9_copy_54 rfl rfl ?_
              refine gX9_39 58 rfl dX9_copy_55 rfl ?_
              refine z_iconst 59 (v := nI 1) dX9_copy_58 rfl rfl ?_
              refine z_cVI1 62 (tX0_found (by omega) (by omega)) kX0_found dX9_copy_59 rfl lX9_87 (by first | assumption | rfl) (Nat.le_of_ble_eq_true rfl) ?_
              rintro _ _ ⟨e1, e2⟩
              replace e1 := e1.symm
              replace e2 := e2.symm
              subst e1
              subst e2
              refine z_ri dX9_copy_62 rfl ?_
              exact qxf hW (e0.trans (if_pos hN)) (by decide) hX Fr.rf
        · exact absurd (nI_pos' hn) h18
      · exact absurd hA2' h11
  rw [if_neg hN] at e0
  obtain ⟨q, hq⟩ := Option.ne_none_iff_exists'.mp (fun z => hN (Or.inl z))
  obtain ⟨w, hw⟩ := Option.ne_none_iff_exists'.mp (fun z => hN (Or.inr z))
  rw [hq, hw] at e0
  have hS' : Sh σ (24 + 2 * r) 40 (some q) := by rw [← hq]; exact hS
  have hT' : Sh σ (24 + 2 * t) 40 (some w) := by rw [← hw]; exact hT
  have q40 := hS'.1
  have w40 := hT'.1
  refine Ret.of [some (zr E 0), some (.int (nI r)), some (.int i), some (.int (nI t)), some (.int j), some (.int (nI n))] (by decide +kernel) (Nat.le_of_ble_eq_true rfl) rfl ?_
  refine z_iload_n 1 dX9_copy_0 rfl rfl ?_
  refine z_cSI1 4 (tX9_isRow) kX9_isRow dX9_copy_1 rfl lX9_83 (Nat.le_of_ble_eq_true rfl) ?_
  rintro _ _ ⟨e1, e2⟩
  replace e1 := e1.symm
  replace e2 := e2.symm
  subst e1
  subst e2
  refine z_ifb_eq 14 7 dX9_copy_4 (by decide) rfl (fun h4 => ?_) (fun h4 => ?_)
  · exact absurd hA1' h4
  · refine z_iload_n 8 dX9_copy_7 rfl rfl ?_
    refine z_cSI1 11 (tX9_isRow) kX9_isRow dX9_copy_8 rfl lX9_83 (Nat.le_of_ble_eq_true rfl) ?_
    rintro _ _ ⟨e1, e2⟩
    replace e1 := e1.symm
    replace e2 := e2.symm
    subst e1
    subst e2
    refine z_ifb_ne 16 14 dX9_copy_11 (by decide) rfl (fun h11 => ?_) (fun h11 => ?_)
    · refine z_iload 18 dX9_copy_16 rfl rfl ?_
      refine z_if_ge 30 21 dX9_copy_18 (by decide) rfl (fun h18 => ?_) (fun h18 => ?_)
      · refine z_aload_n 31 dX9_copy_30 rfl rfl ?_
        refine gX9_11 34 rfl dX9_copy_31 rfl ?_
        refine z_iload_n 35 dX9_copy_34 rfl rfl ?_
        refine z_aald1 36 dX9_copy_35 rfl (by omega) ?_
        refine z_cVI0 39 (tX7_isM (by first | assumption | rfl) (by first | assumption | rfl) (by first | assumption | rfl)) kX7_isMissing dX9_copy_36 rfl lX9_107 (by first | assumption | rfl) (Nat.le_of_ble_eq_true rfl) ?_
        rintro _ _ ⟨e1, e2⟩
        replace e1 := e1.symm
        replace e2 := e2.symm
        subst e1
        subst e2
        refine z_ifb_ne 54 42 dX9_copy_39 (by decide) rfl (fun h39 => ?_) (fun h39 => ?_)
        · exact absurd h39 (fun z => by cases z)
        · refine z_aload_n 43 dX9_copy_42 rfl rfl ?_
          refine gX9_11 46 rfl dX9_copy_43 rfl ?_
          refine z_iload_n 47 dX9_copy_46 rfl rfl ?_
          refine z_aald1 48 dX9_copy_47 rfl (by omega) ?_
          refine z_cVI0 51 (tX7_isM (by first | assumption | rfl) (by first | assumption | rfl) (by first | assumption | rfl)) kX7_isMissing dX9_copy_48 rfl lX9_107 (by first | assumption | rfl) (Nat.le_of_ble_eq_true rfl) ?_
          rintro _ _ ⟨e1, e2⟩
          replace e1 := e1.symm
          replace e2 := e2.symm
          subst e1
          subst e2
          refine z_ifb_eq 63 54 dX9_copy_51 (by decide) rfl (fun h51 => ?_) (fun h51 => ?_)
          · refine z_aload_n 64 dX9_copy_63 rfl rfl ?_
            refine gX9_11 67 rfl dX9_copy_64 rfl ?_
            refine z_iload_n 68 dX9_copy_67 rfl rfl ?_
            refine z_aald1 69 dX9_copy_68 rfl (by omega) ?_
            refine z_iload_n 70 dX9_copy_69 rfl rfl ?_
            refine z_iload 72 dX9_copy_70 rfl rfl ?_
            refine z_cVI2 75 (tX7_hasRange hk hk1 hS' hn) kX7_hasRange dX9_copy_72 rfl lX9_114 (by first | assumption | rfl) (Nat.le_of_ble_eq_true rfl) ?_
            rintro _ _ ⟨e1, e2⟩
            replace e1 := e1.symm
            replace e2 := e2.symm
            subst e1
            subst e2
            refine z_ifb_eq 94 78 dX9_copy_75 (by decide) rfl (fun h75 => ?_) (fun h75 => ?_)
            · refine z_aload_n 95 dX9_copy_94 rfl rfl ?_
              refine gX9_39 98 rfl dX9_copy_95 rfl ?_
              refine z_iconst 99 (v := nI 2) dX9_copy_98 rfl rfl ?_
              refine z_cVI1 102 (tX0_found (by omega) (by omega)) kX0_found dX9_copy_99 rfl lX9_87 (by first | assumption | rfl) (Nat.le_of_ble_eq_true rfl) ?_
              rintro _ _ ⟨e1, e2⟩
              replace e1 := e1.symm
              replace e2 := e2.symm
              subst e1
              subst e2
              refine z_ri dX9_copy_102 rfl ?_
              first | exact qxf hW (e0.trans (if_pos (Or.inl h75))) (by decide) hX Fr.rf | exact qxf hW (e0.trans (if_pos (Or.inr h91))) (by decide) hX Fr.rf
            · refine z_aload_n 79 dX9_copy_78 rfl rfl ?_
              refine gX9_11 82 rfl dX9_copy_79 rfl ?_
              refine z_iload_n 83 dX9_copy_82 rfl rfl ?_
              refine z_aald1 84 dX9_copy_83 rfl (by omega) ?_
              refine z_iload 86 dX9_copy_84 rfl rfl ?_
              refine z_iload 88 dX9_copy_86 rfl rfl ?_
              refine z_cVI2 91 (tX7_hasRange hkt hkt1 hT' hn) kX7_hasRange dX9_copy_88 rfl lX9_114 (by first | assumption | rfl) (Nat.le_of_ble_eq_true rfl) ?_
              rintro _ _ ⟨e1, e2⟩
              replace e1 := e1.symm
              replace e2 := e2.symm
              subst e1
              subst e2
              refine z_ifb_ne 103 94 dX9_copy_91 (by decide) rfl (fun h91 => ?_) (fun h91 => ?_)
              · have g1 := h75.2
                have g2 := h91.2
                obtain ⟨i, hi, rfl⟩ := nI_of h75.1
                obtain ⟨j, hj, rfl⟩ := nI_of h91.1
                rw [nI_clamp hi, nI_clamp hn] at g1
                rw [nI_clamp hj, nI_clamp hn] at g2
                rw [if_neg (fun z => z.elim (fun y => y h75) (fun y => y h91)), nI_clamp hi, nI_clamp hj, nI_clamp hn] at e0
                refine z_aload_n 104 dX9_copy_103 rfl rfl ?_
                refine gX9_11 107 rfl dX9_copy_104 rfl ?_
                refine z_iload_n 108 dX9_copy_107 rfl rfl ?_
                refine z_aald1 109 dX9_copy_108 rfl (by omega) ?_
                refine gX9_118 112 rfl dX9_copy_109 rfl (by first | assumption | rfl) ?_
                refine z_iload_n 113 dX9_copy_112 rfl rfl ?_
                refine z_aload_n 114 dX9_copy_113 rfl rfl ?_
                refine gX9_11 117 rfl dX9_copy_114 rfl ?_
                refine z_iload_n 118 dX9_copy_117 rfl rfl ?_
                refine z_aald1 119 dX9_copy_118 rfl (by omega) ?_
                refine gX9_118 122 rfl dX9_copy_119 rfl (by first | assumption | rfl) ?_
                refine z_iload 124 dX9_copy_122 rfl rfl ?_
                refine z_iload 126 dX9_copy_124 rfl rfl ?_
                refine z_copy 129 dX9_copy_126 rfl lX9_122 kS_n kS_s kS_i hk1 hkt1 (nI_pos hi) (nI_pos hj) (nI_pos hn) (by rw [nI_clamp hi, nI_clamp hn]; omega) (by rw [nI_clamp hj, nI_clamp hn]; omega) (Nat.le_of_ble_eq_true rfl) ?_
                refine z_iconst 130 (v := nI 1) dX9_copy_129 rfl rfl ?_
                refine z_ri dX9_copy_130 rfl ?_
                have hf : Fr (fun x y => x = 24 + 2 * t ∧ y = 1 ∨ x = 24 + 2 * t + 1) σ (sf σ (24 + 2 * t + 1) (va_cpy (σ.1 (24 + 2 * r + 1)) (σ.1 (24 + 2 * t + 1)) (nI i).toNatClampNeg (nI j).toNatClampNeg (nI n).toNatClampNeg)) := Fr.rf.sf _ (fun _ => Or.inr rfl)
                refine qx0 e0 (hX.R hW hf ht ⟨w40, (by rw [gi_sf, if_neg (by omega)]; exact hT'.2.1), fun k hk => ?_⟩) (hf.mono (by intros; omega))
                have hk' : k < w.1 := hk
                rw [gi_sf, if_pos rfl, nI_clamp hi, nI_clamp hj, nI_clamp hn]
                show va_cpy _ _ i j n k = if j ≤ k ∧ k < j + n then sGet (some q) (i + (k - j)) else w.2 k
                unfold va_cpy
                by_cases hc : j ≤ k ∧ k < j + n
                · rw [if_pos hc, if_pos hc]; exact hS'.2.2 _ (by omega)
                · rw [if_neg hc, if_neg hc]; exact hT'.2.2 k hk'
              · refine z_aload_n 95 dX9_copy_94 rfl rfl ?_
                refine gX9_39 98 rfl dX9_copy_95 rfl ?_
                refine z_iconst 99 (v := nI 2) dX9_copy_98 rfl rfl ?_
                refine z_cVI1 102 (tX0_found (by omega) (by omega)) kX0_found dX9_copy_99 rfl lX9_87 (by first | assumption | rfl) (Nat.le_of_ble_eq_true rfl) ?_
                rintro _ _ ⟨e1, e2⟩
                replace e1 := e1.symm
                replace e2 := e2.symm
                subst e1
                subst e2
                refine z_ri dX9_copy_102 rfl ?_
                first | exact qxf hW (e0.trans (if_pos (Or.inl h75))) (by decide) hX Fr.rf | exact qxf hW (e0.trans (if_pos (Or.inr h91))) (by decide) hX Fr.rf
          · exact absurd h51 (fun z => by cases z)
      · exact absurd (nI_pos' hn) h18
    · exact absurd hA2' h11
set_option maxRecDepth 20000 in
theorem tX10_copy {E : zE} {d : Nat} {σ : zM} {S : sS} {r i t j n : Int32} (hW : WF S) (hX : RM S σ) : Ret E mX10_copy (d + 2) [zr E 102, .int r, .int i, .int t, .int j, .int n] σ (qM σ (spCopy S r i t j n)) := by
  by_cases hA : ¬ inN r 6 ∨ ¬ inN t 6
  · refine Ret.of [some (zr E 102), some (.int r), some (.int i), some (.int t), some (.int j), some (.int n), none] (by decide +kernel) (Nat.le_of_ble_eq_true rfl) rfl ?_
    refine z_iload_n 1 dX10_copy_0 rfl rfl ?_
    refine z_cSI1 4 (tX10_isRow) kX10_isRow dX10_copy_1 rfl lX10_95 (Nat.le_of_ble_eq_true rfl) ?_
    rintro _ _ ⟨e1, e2⟩
    replace e1 := e1.symm
    replace e2 := e2.symm
    subst e1
    subst e2
    refine z_ifb_eq 14 7 dX10_copy_4 (by decide) rfl (fun h4 => ?_) (fun h4 => ?_)
    · refine z_iconst 15 (v := (-1)) dX10_copy_14 rfl rfl ?_
      refine z_ri dX10_copy_15 rfl ?_
      exact qm0 (if_pos hA) hX Fr.rf
    · refine z_iload_n 8 dX10_copy_7 rfl rfl ?_
      refine z_cSI1 11 (tX10_isRow) kX10_isRow dX10_copy_8 rfl lX10_95 (Nat.le_of_ble_eq_true rfl) ?_
      rintro _ _ ⟨e1, e2⟩
      replace e1 := e1.symm
      replace e2 := e2.symm
      subst e1
      subst e2
      refine z_ifb_ne 16 14 dX10_copy_11 (by decide) rfl (fun h11 => ?_) (fun h11 => ?_)
      · exact absurd hA (fun z => z.elim (fun q => q h4) (fun q => q h11))
      · refine z_iconst 15 (v := (-1)) dX10_copy_14 rfl rfl ?_
        refine z_ri dX10_copy_15 rfl ?_
        exact qm0 (if_pos hA) hX Fr.rf
  have hA1 : inN r 6 := Classical.byContradiction fun q => hA (Or.inl q)
  have hA2 : inN t 6 := Classical.byContradiction fun q => hA (Or.inr q)
  have hA1' := hA1
  have hA2' := hA2
  obtain ⟨r, hr, rfl⟩ := inN_of hA1
  obtain ⟨t, ht, rfl⟩ := inN_of hA2
  have e0 : spCopy S (nI r) i (nI t) j n = _ := if_neg hA
  rw [nI_clamp (by omega), nI_clamp (by omega)] at e0
  have hS : mSh σ 104 105 r 40 (sR S r) := hX.1 r hr
  have hT : mSh σ 104 105 t 40 (sR S t) := hX.1 t ht
  by_cases hB : n < 0
  · refine Ret.of [some (zr E 102), some (.int (nI r)), some (.int i), some (.int (nI t)), some (.int j), some (.int n), none] (by decide +kernel) (Nat.le_of_ble_eq_true rfl) rfl ?_
    refine z_iload_n 1 dX10_copy_0 rfl rfl ?_
    refine z_cSI1 4 (tX10_isRow) kX10_isRow dX10_copy_1 rfl lX10_95 (Nat.le_of_ble_eq_true rfl) ?_
    rintro _ _ ⟨e1, e2⟩
    replace e1 := e1.symm
    replace e2 := e2.symm
    subst e1
    subst e2
    refine z_ifb_eq 14 7 dX10_copy_4 (by decide) rfl (fun h4 => ?_) (fun h4 => ?_)
    · exact absurd hA1' h4
    · refine z_iload_n 8 dX10_copy_7 rfl rfl ?_
      refine z_cSI1 11 (tX10_isRow) kX10_isRow dX10_copy_8 rfl lX10_95 (Nat.le_of_ble_eq_true rfl) ?_
      rintro _ _ ⟨e1, e2⟩
      replace e1 := e1.symm
      replace e2 := e2.symm
      subst e1
      subst e2
      refine z_ifb_ne 16 14 dX10_copy_11 (by decide) rfl (fun h11 => ?_) (fun h11 => ?_)
      · refine z_iload 18 dX10_copy_16 rfl rfl ?_
        refine z_if_ge 27 21 dX10_copy_18 (by decide) rfl (fun h18 => ?_) (fun h18 => ?_)
        · exact absurd hB (Int32.not_lt.mpr h18)
        · refine z_aload_n 22 dX10_copy_21 rfl rfl ?_
          refine z_iconst 23 (v := nI 5) dX10_copy_22 rfl rfl ?_
          refine z_cVI1 26 (tX10_meets (by omega)) kX10_meets dX10_copy_23 rfl lX10_99 (by first | assumption | rfl) (Nat.le_of_ble_eq_true rfl) ?_
          rintro _ _ ⟨e1, e2⟩
          replace e1 := e1.symm
          replace e2 := e2.symm
          subst e1
          subst e2
          refine z_ri dX10_copy_26 rfl ?_
          exact qmf hW (e0.trans (if_pos hB)) (by decide) hX Fr.rf
      · exact absurd hA2' h11
  obtain ⟨n, hn, rfl⟩ := nI_of hB
  rw [if_neg hB] at e0
  by_cases hN : sR S r = none ∨ sR S t = none
  · refine Ret.of [some (zr E 102), some (.int (nI r)), some (.int i), some (.int (nI t)), some (.int j), some (.int (nI n)), none] (by decide +kernel) (Nat.le_of_ble_eq_true rfl) rfl ?_
    refine z_iload_n 1 dX10_copy_0 rfl rfl ?_
    refine z_cSI1 4 (tX10_isRow) kX10_isRow dX10_copy_1 rfl lX10_95 (Nat.le_of_ble_eq_true rfl) ?_
    rintro _ _ ⟨e1, e2⟩
    replace e1 := e1.symm
    replace e2 := e2.symm
    subst e1
    subst e2
    refine z_ifb_eq 14 7 dX10_copy_4 (by decide) rfl (fun h4 => ?_) (fun h4 => ?_)
    · exact absurd hA1' h4
    · refine z_iload_n 8 dX10_copy_7 rfl rfl ?_
      refine z_cSI1 11 (tX10_isRow) kX10_isRow dX10_copy_8 rfl lX10_95 (Nat.le_of_ble_eq_true rfl) ?_
      rintro _ _ ⟨e1, e2⟩
      replace e1 := e1.symm
      replace e2 := e2.symm
      subst e1
      subst e2
      refine z_ifb_ne 16 14 dX10_copy_11 (by decide) rfl (fun h11 => ?_) (fun h11 => ?_)
      · refine z_iload 18 dX10_copy_16 rfl rfl ?_
        refine z_if_ge 27 21 dX10_copy_18 (by decide) rfl (fun h18 => ?_) (fun h18 => ?_)
        · refine z_aload_n 28 dX10_copy_27 rfl rfl ?_
          refine gX10_17 31 rfl dX10_copy_28 rfl ?_
          refine z_iload_n 32 dX10_copy_31 rfl rfl ?_
          refine z_ialdn 33 dX10_copy_32 rfl (by first | assumption | rfl) (by omega) ?_
          refine z_if_lt 45 36 dX10_copy_33 (by decide) rfl (fun h33 => ?_) (fun h33 => ?_)
          · (try rw [nI_lt0 (by omega)] at h33)
            refine z_aload_n 46 dX10_copy_45 rfl rfl ?_
            refine z_iconst 47 (v := nI 1) dX10_copy_46 rfl rfl ?_
            refine z_cVI1 50 (tX10_meets (by omega)) kX10_meets dX10_copy_47 rfl lX10_99 (by first | assumption | rfl) (Nat.le_of_ble_eq_true rfl) ?_
            rintro _ _ ⟨e1, e2⟩
            replace e1 := e1.symm
            replace e2 := e2.symm
            subst e1
            subst e2
            refine z_ri dX10_copy_50 rfl ?_
            exact qmf hW (e0.trans (if_pos hN)) (by decide) hX Fr.rf
          · (try rw [nI_lt0 (by omega)] at h33)
            refine z_aload_n 37 dX10_copy_36 rfl rfl ?_
            refine gX10_17 40 rfl dX10_copy_37 rfl ?_
            refine z_iload_n 41 dX10_copy_40 rfl rfl ?_
            refine z_ialdn 42 dX10_copy_41 rfl (by first | assumption | rfl) (by omega) ?_
            refine z_if_ge 51 45 dX10_copy_42 (by decide) rfl (fun h42 => ?_) (fun h42 => ?_)
            · (try rw [nI_ge0 (by omega)] at h42)
              exact absurd hN (fun z => z.elim (fun y => h33 ((hS.neg (by decide)).mpr y)) (fun y => Int32.not_lt.mpr h42 ((hT.neg (by decide)).mpr y)))
            · (try rw [nI_ge0 (by omega)] at h42)
              refine z_aload_n 46 dX10_copy_45 rfl rfl ?_
              refine z_iconst 47 (v := nI 1) dX10_copy_46 rfl rfl ?_
              refine z_cVI1 50 (tX10_meets (by omega)) kX10_meets dX10_copy_47 rfl lX10_99 (by first | assumption | rfl) (Nat.le_of_ble_eq_true rfl) ?_
              rintro _ _ ⟨e1, e2⟩
              replace e1 := e1.symm
              replace e2 := e2.symm
              subst e1
              subst e2
              refine z_ri dX10_copy_50 rfl ?_
              exact qmf hW (e0.trans (if_pos hN)) (by decide) hX Fr.rf
        · exact absurd (nI_pos' hn) h18
      · exact absurd hA2' h11
  rw [if_neg hN] at e0
  obtain ⟨q, hq⟩ := Option.ne_none_iff_exists'.mp (fun z => hN (Or.inl z))
  obtain ⟨w, hw⟩ := Option.ne_none_iff_exists'.mp (fun z => hN (Or.inr z))
  rw [hq, hw] at e0
  rw [hq] at hS
  rw [hw] at hT
  have q40 := hS.1
  have w40 := hT.1
  have hs : gi σ 104 r = nI q.1 := hS.2.1
  have hs2 : gi σ 104 t = nI w.1 := hT.2.1
  by_cases hG : ¬ rng q.1 i (nI n) ∨ ¬ rng w.1 j (nI n)
  · refine Ret.of [some (zr E 102), some (.int (nI r)), some (.int i), some (.int (nI t)), some (.int j), some (.int (nI n)), none] (by decide +kernel) (Nat.le_of_ble_eq_true rfl) rfl ?_
    refine z_iload_n 1 dX10_copy_0 rfl rfl ?_
    refine z_cSI1 4 (tX10_isRow) kX10_isRow dX10_copy_1 rfl lX10_95 (Nat.le_of_ble_eq_true rfl) ?_
    rintro _ _ ⟨e1, e2⟩
    replace e1 := e1.symm
    replace e2 := e2.symm
    subst e1
    subst e2
    refine z_ifb_eq 14 7 dX10_copy_4 (by decide) rfl (fun h4 => ?_) (fun h4 => ?_)
    · exact absurd hA1' h4
    · refine z_iload_n 8 dX10_copy_7 rfl rfl ?_
      refine z_cSI1 11 (tX10_isRow) kX10_isRow dX10_copy_8 rfl lX10_95 (Nat.le_of_ble_eq_true rfl) ?_
      rintro _ _ ⟨e1, e2⟩
      replace e1 := e1.symm
      replace e2 := e2.symm
      subst e1
      subst e2
      refine z_ifb_ne 16 14 dX10_copy_11 (by decide) rfl (fun h11 => ?_) (fun h11 => ?_)
      · refine z_iload 18 dX10_copy_16 rfl rfl ?_
        refine z_if_ge 27 21 dX10_copy_18 (by decide) rfl (fun h18 => ?_) (fun h18 => ?_)
        · refine z_aload_n 28 dX10_copy_27 rfl rfl ?_
          refine gX10_17 31 rfl dX10_copy_28 rfl ?_
          refine z_iload_n 32 dX10_copy_31 rfl rfl ?_
          refine z_ialdn 33 dX10_copy_32 rfl (by first | assumption | rfl) (by omega) ?_
          refine z_if_lt 45 36 dX10_copy_33 (by decide) rfl (fun h33 => ?_) (fun h33 => ?_)
          · (try rw [nI_lt0 (by omega)] at h33)
            exact absurd ((hS.neg (by decide)).mp h33) (fun z => by cases z)
          · (try rw [nI_lt0 (by omega)] at h33)
            refine z_aload_n 37 dX10_copy_36 rfl rfl ?_
            refine gX10_17 40 rfl dX10_copy_37 rfl ?_
            refine z_iload_n 41 dX10_copy_40 rfl rfl ?_
            refine z_ialdn 42 dX10_copy_41 rfl (by first | assumption | rfl) (by omega) ?_
            refine z_if_ge 51 45 dX10_copy_42 (by decide) rfl (fun h42 => ?_) (fun h42 => ?_)
            · (try rw [nI_ge0 (by omega)] at h42)
              refine z_iload_n 52 dX10_copy_51 rfl rfl ?_
              refine z_if_lt 95 55 dX10_copy_52 (by decide) rfl (fun h52 => ?_) (fun h52 => ?_)
              · refine z_aload_n 96 dX10_copy_95 rfl rfl ?_
                refine z_iconst 97 (v := nI 2) dX10_copy_96 rfl rfl ?_
                refine z_cVI1 100 (tX10_meets (by omega)) kX10_meets dX10_copy_97 rfl lX10_99 (by first | assumption | rfl) (Nat.le_of_ble_eq_true rfl) ?_
                rintro _ _ ⟨e1, e2⟩
                replace e1 := e1.symm
                replace e2 := e2.symm
                subst e1
                subst e2
                refine z_ri dX10_copy_100 rfl ?_
                exact qmf hW (e0.trans (if_pos hG)) (by decide) hX Fr.rf
              · obtain ⟨i, hi, rfl⟩ := nI_of h52
                refine z_iload 57 dX10_copy_55 rfl rfl ?_
                refine z_if_lt 95 60 dX10_copy_57 (by decide) rfl (fun h57 => ?_) (fun h57 => ?_)
                · refine z_aload_n 96 dX10_copy_95 rfl rfl ?_
                  refine z_iconst 97 (v := nI 2) dX10_copy_96 rfl rfl ?_
                  refine z_cVI1 100 (tX10_meets (by omega)) kX10_meets dX10_copy_97 rfl lX10_99 (by first | assumption | rfl) (Nat.le_of_ble_eq_true rfl) ?_
                  rintro _ _ ⟨e1, e2⟩
                  replace e1 := e1.symm
                  replace e2 := e2.symm
                  subst e1
                  subst e2
                  refine z_ri dX10_copy_100 rfl ?_
                  exact qmf hW (e0.trans (if_pos hG)) (by decide) hX Fr.rf
                · obtain ⟨j, hj, rfl⟩ := nI_of h57
                  refine z_iload_n 61 dX10_copy_60 rfl rfl ?_
                  refine z_i2l 62 dX10_copy_61 rfl ?_
                  refine z_iload 64 dX10_copy_62 rfl rfl ?_
                  refine z_i2l 65 dX10_copy_64 rfl ?_
                  refine z_ladd 66 dX10_copy_65 rfl ?_
                  refine z_aload_n 67 dX10_copy_66 rfl rfl ?_
                  refine gX10_17 70 rfl dX10_copy_67 rfl ?_
                  refine z_iload_n 71 dX10_copy_70 rfl rfl ?_
                  refine z_ialdn 72 dX10_copy_71 rfl (by first | assumption | rfl) (by omega) ?_
                  refine z_i2l 73 dX10_copy_72 rfl ?_
                  rw [hs, nI_l hi, nI_l hn, nI_l (by omega), lN_add]
                  refine z_lcmp 74 dX10_copy_73 rfl ?_
                  refine z_if_gt 95 77 dX10_copy_74 (by decide) rfl (fun h74 => ?_) (fun h74 => ?_)
                  · rw [lg_cmp_gt] at h74
                    refine z_aload_n 96 dX10_copy_95 rfl rfl ?_
                    refine z_iconst 97 (v := nI 2) dX10_copy_96 rfl rfl ?_
                    refine z_cVI1 100 (tX10_meets (by omega)) kX10_meets dX10_copy_97 rfl lX10_99 (by first | assumption | rfl) (Nat.le_of_ble_eq_true rfl) ?_
                    rintro _ _ ⟨e1, e2⟩
                    replace e1 := e1.symm
                    replace e2 := e2.symm
                    subst e1
                    subst e2
                    refine z_ri dX10_copy_100 rfl ?_
                    exact qmf hW (e0.trans (if_pos hG)) (by decide) hX Fr.rf
                  · rw [lg_cmp_gt] at h74
                    rw [pk_lLT (by omega) (by omega)] at h74
                    refine z_iload 79 dX10_copy_77 rfl rfl ?_
                    refine z_i2l 80 dX10_copy_79 rfl ?_
                    refine z_iload 82 dX10_copy_80 rfl rfl ?_
                    refine z_i2l 83 dX10_copy_82 rfl ?_
                    refine z_ladd 84 dX10_copy_83 rfl ?_
                    refine z_aload_n 85 dX10_copy_84 rfl rfl ?_
                    refine gX10_17 88 rfl dX10_copy_85 rfl ?_
                    refine z_iload_n 89 dX10_copy_88 rfl rfl ?_
                    refine z_ialdn 90 dX10_copy_89 rfl (by first | assumption | rfl) (by omega) ?_
                    refine z_i2l 91 dX10_copy_90 rfl ?_
                    rw [hs2, nI_l hj, nI_l hn, nI_l (by omega), lN_add]
                    refine z_lcmp 92 dX10_copy_91 rfl ?_
                    refine z_if_le 101 95 dX10_copy_92 (by decide) rfl (fun h92 => ?_) (fun h92 => ?_)
                    · rw [lg_cmp_le] at h92
                      rw [pk_lLE (by omega) (by omega)] at h92
                      exfalso
                      refine hG.elim (fun z => z ⟨nI_pos hi, by rw [nI_clamp hi, nI_clamp hn]; omega⟩) (fun z => z ⟨nI_pos hj, by rw [nI_clamp hj, nI_clamp hn]; omega⟩)
                      skip
                    · rw [lg_cmp_le] at h92
                      refine z_aload_n 96 dX10_copy_95 rfl rfl ?_
                      refine z_iconst 97 (v := nI 2) dX10_copy_96 rfl rfl ?_
                      refine z_cVI1 100 (tX10_meets (by omega)) kX10_meets dX10_copy_97 rfl lX10_99 (by first | assumption | rfl) (Nat.le_of_ble_eq_true rfl) ?_
                      rintro _ _ ⟨e1, e2⟩
                      replace e1 := e1.symm
                      replace e2 := e2.symm
                      subst e1
                      subst e2
                      refine z_ri dX10_copy_100 rfl ?_
                      exact qmf hW (e0.trans (if_pos hG)) (by decide) hX Fr.rf
            · (try rw [nI_ge0 (by omega)] at h42)
              exact absurd ((hT.neg (by decide)).mp (Int32.not_le.mp h42)) (fun z => by cases z)
        · exact absurd (nI_pos' hn) h18
      · exact absurd hA2' h11
  replace e0 := e0.trans (if_neg hG)
  have g1 : rng q.1 i (nI n) := Classical.byContradiction fun z => hG (Or.inl z)
  have g2 : rng w.1 j (nI n) := Classical.byContradiction fun z => hG (Or.inr z)
  obtain ⟨i, hi, rfl⟩ := nI_of g1.1
  obtain ⟨j, hj, rfl⟩ := nI_of g2.1
  have g1 := g1.2
  have g2 := g2.2
  rw [nI_clamp hi, nI_clamp hn] at g1
  rw [nI_clamp hj, nI_clamp hn] at g2
  rw [nI_clamp hi, nI_clamp hj, nI_clamp hn] at e0
  refine Ret.of [some (zr E 102), some (.int (nI r)), some (.int (nI i)), some (.int (nI t)), some (.int (nI j)), some (.int (nI n)), none] (by decide +kernel) (Nat.le_of_ble_eq_true rfl) rfl ?_
  have loop2 : ∀ ρ, RM S ρ → Fr mAll σ ρ → (∀ y, y < n → gi ρ 106 y = q.2 (i + y)) → ∀ k, k ≤ n → ∀ τ, Fr (fun x y => x = 104 ∧ y = t ∨ x = 105 ∧ 40 * t ≤ y ∧ y < 40 * t + 40) ρ τ → gi τ 104 t = nI w.1 → (∀ y, y < w.1 → gi τ 105 (40 * t + y) = if j ≤ y ∧ y < j + k then q.2 (i + (y - j)) else w.2 y) → At E mX10_copy (d + 2) (qM σ (spCopy S (nI r) (nI i) (nI t) (nI j) (nI n))) 136 [some (zr E 102), some (.int (nI r)), some (.int (nI i)), some (.int (nI t)), some (.int (nI j)), some (.int (nI n)), some (.int (nI k))] [] τ := by
    intro ρ hR hρ hm
    refine z_up (fun k hk ih τ hF hz hv => ?_)
    refine z_iload 138 dX10_copy_136 rfl rfl ?_
    refine z_iload 140 dX10_copy_138 rfl rfl ?_
    refine z_icmp_ge 166 143 dX10_copy_140 (by decide) rfl (fun h140 => ?_) (fun h140 => ?_)
    · (try rw [nI_leI (by omega) (by omega)] at h140)
      refine z_iconst 167 (v := nI 1) dX10_copy_166 rfl rfl ?_
      refine z_ri dX10_copy_167 rfl ?_
      have hkn : k = n := by omega
      subst hkn
      exact qm0 e0 (hR.R hW hF ht ⟨w40, hz, fun y hy => hv y hy⟩) (hρ.tr hF (fun _ _ h => h) (by intros; omega))
    · (try rw [nI_leI (by omega) (by omega)] at h140)
      refine z_aload_n 144 dX10_copy_143 rfl rfl ?_
      refine z_iload_n 145 dX10_copy_144 rfl rfl ?_
      refine z_iload 147 dX10_copy_145 rfl rfl ?_
      refine z_iload 149 dX10_copy_147 rfl rfl ?_
      refine z_iadd 150 dX10_copy_149 rfl ?_
      rw [nI_add]
      refine z_aload_n 151 dX10_copy_150 rfl rfl ?_
      refine gX10_23 154 rfl dX10_copy_151 rfl ?_
      refine z_iload 156 dX10_copy_154 rfl rfl ?_
      refine z_ialdn 157 dX10_copy_156 rfl (by first | assumption | rfl) (by omega) ?_
      rw [hF.gi (by omega), hm k (by omega)]
      refine z_cVV3 160 (tX10_setRow (by omega) (by omega)) kX10_setRow dX10_copy_157 rfl lX10_106 (by first | assumption | rfl) (Nat.le_of_ble_eq_true rfl) ?_
      rintro _ e2
      replace e2 := e2.symm
      subst e2
      refine zs_iinc_6_7_1 163 rfl dX10_copy_160 rfl rfl ?_
      rw [nI_add]
      refine z_goto 136 dX10_copy_163 rfl ?_
      refine ih (k + 1) (by omega) (by omega) _ (hF.si _ (by omega)) (by rw [gi_s2 _ _ (by omega)]; exact hz) (fun y hy => ?_)
      rw [gi_si]
      by_cases hyk : y = j + k
      · rw [if_pos ⟨rfl, by omega⟩, if_pos (by omega), show i + k = i + (y - j) by omega]
      · rw [if_neg (by omega), hv y hy]
        by_cases hc : j ≤ y ∧ y < j + k
        · rw [if_pos hc, if_pos (by omega)]
        · rw [if_neg hc, if_neg (by omega)]
  have loop1 : ∀ k, k ≤ n → ∀ τ, Fr (fun x y => x = 106) σ τ → (∀ y, y < k → gi τ 106 y = q.2 (i + y)) → At E mX10_copy (d + 2) (qM σ (spCopy S (nI r) (nI i) (nI t) (nI j) (nI n))) 104 [some (zr E 102), some (.int (nI r)), some (.int (nI i)), some (.int (nI t)), some (.int (nI j)), some (.int (nI n)), some (.int (nI k))] [] τ := by
    refine z_up (fun k hk ih τ hF hv => ?_)
    refine z_iload 106 dX10_copy_104 rfl rfl ?_
    refine z_iload 108 dX10_copy_106 rfl rfl ?_
    refine z_icmp_ge 133 111 dX10_copy_108 (by decide) rfl (fun h108 => ?_) (fun h108 => ?_)
    · (try rw [nI_leI (by omega) (by omega)] at h108)
      refine z_iconst 134 (v := nI 0) dX10_copy_133 rfl rfl ?_
      refine zs_istore_6_7 136 rfl dX10_copy_134 rfl rfl ?_
      refine loop2 τ (hX.scr hW (hF.mono (by unfold mS; intros; omega))) (hF.mono (by intros; omega)) (fun y hy => hv y (by omega)) 0 (Nat.zero_le _) τ Fr.rf ((hF.gi (by omega)).trans hT.2.1) (fun y hy => ?_)
      rw [if_neg (by omega)]
      exact (hF.gi (by omega)).trans (hT.2.2 y hy)
    · (try rw [nI_leI (by omega) (by omega)] at h108)
      refine z_aload_n 112 dX10_copy_111 rfl rfl ?_
      refine gX10_23 115 rfl dX10_copy_112 rfl ?_
      refine z_iload 117 dX10_copy_115 rfl rfl ?_
      refine z_aload_n 118 dX10_copy_117 rfl rfl ?_
      refine z_iload_n 119 dX10_copy_118 rfl rfl ?_
      refine z_iload_n 120 dX10_copy_119 rfl rfl ?_
      refine z_iload 122 dX10_copy_120 rfl rfl ?_
      refine z_iadd 123 dX10_copy_122 rfl ?_
      rw [nI_add]
      refine z_cVI2 126 (tX10_rowAt (by omega) (by omega)) kX10_rowAt dX10_copy_123 rfl lX10_113 (by first | assumption | rfl) (Nat.le_of_ble_eq_true rfl) ?_
      rintro _ _ ⟨e1, e2⟩
      replace e1 := e1.symm
      replace e2 := e2.symm
      subst e1
      subst e2
      rw [hF.gi (by omega), hS.2.2 (i + k) (by show i + k < q.1; omega)]
      refine z_iastn 127 dX10_copy_126 rfl (by first | assumption | rfl) (by omega) ?_
      refine zs_iinc_6_7_1 130 rfl dX10_copy_127 rfl rfl ?_
      rw [nI_add]
      refine z_goto 104 dX10_copy_130 rfl ?_
      refine ih (k + 1) (by omega) (by omega) _ (hF.si _ rfl) (fun y hy => ?_)
      rw [gi_si]
      by_cases hyk : y = k
      · rw [if_pos ⟨rfl, hyk⟩, hyk]
      · rw [if_neg (by omega)]; exact hv y (by omega)
  refine z_iload_n 1 dX10_copy_0 rfl rfl ?_
  refine z_cSI1 4 (tX10_isRow) kX10_isRow dX10_copy_1 rfl lX10_95 (Nat.le_of_ble_eq_true rfl) ?_
  rintro _ _ ⟨e1, e2⟩
  replace e1 := e1.symm
  replace e2 := e2.symm
  subst e1
  subst e2
  refine z_ifb_eq 14 7 dX10_copy_4 (by decide) rfl (fun h4 => ?_) (fun h4 => ?_)
  · exact absurd hA1' h4
  · refine z_iload_n 8 dX10_copy_7 rfl rfl ?_
    refine z_cSI1 11 (tX10_isRow) kX10_isRow dX10_copy_8 rfl lX10_95 (Nat.le_of_ble_eq_true rfl) ?_
    rintro _ _ ⟨e1, e2⟩
    replace e1 := e1.symm
    replace e2 := e2.symm
    subst e1
    subst e2
    refine z_ifb_ne 16 14 dX10_copy_11 (by decide) rfl (fun h11 => ?_) (fun h11 => ?_)
    · refine z_iload 18 dX10_copy_16 rfl rfl ?_
      refine z_if_ge 27 21 dX10_copy_18 (by decide) rfl (fun h18 => ?_) (fun h18 => ?_)
      · refine z_aload_n 28 dX10_copy_27 rfl rfl ?_
        refine gX10_17 31 rfl dX10_copy_28 rfl ?_
        refine z_iload_n 32 dX10_copy_31 rfl rfl ?_
        refine z_ialdn 33 dX10_copy_32 rfl (by first | assumption | rfl) (by omega) ?_
        refine z_if_lt 45 36 dX10_copy_33 (by decide) rfl (fun h33 => ?_) (fun h33 => ?_)
        · (try rw [nI_lt0 (by omega)] at h33)
          exact absurd ((hS.neg (by decide)).mp h33) (fun z => by cases z)
        · (try rw [nI_lt0 (by omega)] at h33)
          refine z_aload_n 37 dX10_copy_36 rfl rfl ?_
          refine gX10_17 40 rfl dX10_copy_37 rfl ?_
          refine z_iload_n 41 dX10_copy_40 rfl rfl ?_
          refine z_ialdn 42 dX10_copy_41 rfl (by first | assumption | rfl) (by omega) ?_
          refine z_if_ge 51 45 dX10_copy_42 (by decide) rfl (fun h42 => ?_) (fun h42 => ?_)
          · (try rw [nI_ge0 (by omega)] at h42)
            refine z_iload_n 52 dX10_copy_51 rfl rfl ?_
            refine z_if_lt 95 55 dX10_copy_52 (by decide) rfl (fun h52 => ?_) (fun h52 => ?_)
            · exact absurd h52 (nI_pos hi)
            · refine z_iload 57 dX10_copy_55 rfl rfl ?_
              refine z_if_lt 95 60 dX10_copy_57 (by decide) rfl (fun h57 => ?_) (fun h57 => ?_)
              · exact absurd h57 (nI_pos hj)
              · refine z_iload_n 61 dX10_copy_60 rfl rfl ?_
                refine z_i2l 62 dX10_copy_61 rfl ?_
                refine z_iload 64 dX10_copy_62 rfl rfl ?_
                refine z_i2l 65 dX10_copy_64 rfl ?_
                refine z_ladd 66 dX10_copy_65 rfl ?_
                refine z_aload_n 67 dX10_copy_66 rfl rfl ?_
                refine gX10_17 70 rfl dX10_copy_67 rfl ?_
                refine z_iload_n 71 dX10_copy_70 rfl rfl ?_
                refine z_ialdn 72 dX10_copy_71 rfl (by first | assumption | rfl) (by omega) ?_
                refine z_i2l 73 dX10_copy_72 rfl ?_
                rw [hs, nI_l hi, nI_l hn, nI_l (by omega), lN_add]
                refine z_lcmp 74 dX10_copy_73 rfl ?_
                refine z_if_gt 95 77 dX10_copy_74 (by decide) rfl (fun h74 => ?_) (fun h74 => ?_)
                · rw [lg_cmp_gt] at h74
                  rw [pk_lLT (by omega) (by omega)] at h74
                  omega
                · rw [lg_cmp_gt] at h74
                  refine z_iload 79 dX10_copy_77 rfl rfl ?_
                  refine z_i2l 80 dX10_copy_79 rfl ?_
                  refine z_iload 82 dX10_copy_80 rfl rfl ?_
                  refine z_i2l 83 dX10_copy_82 rfl ?_
                  refine z_ladd 84 dX10_copy_83 rfl ?_
                  refine z_aload_n 85 dX10_copy_84 rfl rfl ?_
                  refine gX10_17 88 rfl dX10_copy_85 rfl ?_
                  refine z_iload_n 89 dX10_copy_88 rfl rfl ?_
                  refine z_ialdn 90 dX10_copy_89 rfl (by first | assumption | rfl) (by omega) ?_
                  refine z_i2l 91 dX10_copy_90 rfl ?_
                  rw [hs2, nI_l hj, nI_l hn, nI_l (by omega), lN_add]
                  refine z_lcmp 92 dX10_copy_91 rfl ?_
                  refine z_if_le 101 95 dX10_copy_92 (by decide) rfl (fun h92 => ?_) (fun h92 => ?_)
                  · rw [lg_cmp_le] at h92
                    refine z_iconst 102 (v := nI 0) dX10_copy_101 rfl rfl ?_
                    refine zs_istore_6_7 104 rfl dX10_copy_102 rfl rfl ?_
                    exact loop1 0 (Nat.zero_le _) σ Fr.rf (fun y hy => absurd hy (Nat.not_lt_zero y))
                  · rw [lg_cmp_le] at h92
                    rw [pk_lLE (by omega) (by omega)] at h92
                    omega
          · (try rw [nI_ge0 (by omega)] at h42)
            exact absurd ((hT.neg (by decide)).mp (Int32.not_le.mp h42)) (fun z => by cases z)
      · exact absurd (nI_pos' hn) h18
    · exact absurd hA2' h11
