/-! the same of the reference -/
theorem inN_in' {i : Int32} {n : Nat} (hn : n < 2 ^ 31) : (nI 0 ≤ i ∧ i ≤ nI n - nI 1) ↔ inN i n := by
  cases n with
  | zero =>
    constructor
    · rintro ⟨h1, h2⟩
      exact absurd (Int32.le_trans h1 h2) (by decide)
    · intro h; exact absurd h.2 (Nat.not_lt_zero _)
  | succ k =>
    rw [show nI (k + 1) - nI 1 = nI k from nI_pred k]
    exact inN_in hn
theorem in_n {i : Int32} {n : Nat} (hn : n < 2 ^ 31) : bI (decide (nI 0 ≤ i ∧ i ≤ nI n - nI 1)) = bI (decide (inN i n)) := bI_c (inN_in' hn)
theorem in_k {i : Int32} {k : Nat} (hn : k + 1 < 2 ^ 31) : bI (decide (nI 0 ≤ i ∧ i ≤ nI k)) = bI (decide (inN i (k + 1))) := bI_c (inN_in hn)
theorem mSh.neg {σ : zM} {c b r cap : Nat} {o : sRow} (hc : cap < 2 ^ 31) (h : mSh σ c b r cap o) : gi σ c r < 0 ↔ o = none := by
  cases o with
  | none => rw [show gi σ c r = -9 from h]; exact ⟨fun _ => rfl, fun _ => by decide⟩
  | some q =>
    rw [h.2.1, nI_lt0 (Nat.lt_of_le_of_lt h.1 hc)]
    simp
theorem tX10_aR1 {E : zE} {d : Nat} {σ : zM} {r : Int32} (h : ¬ inN r 6) : Ret E mX10_askedRow (d + 2) [zr E 102, .int r] σ (qI fun x τ => x = -1 ∧ τ = σ) := by
  have t := tX10_askedRow (E := E) (d := d) (σ := σ) (r := r)
  unfold mAr at t
  rwa [if_pos h] at t
theorem tX10_aR2 {E : zE} {d : Nat} {σ : zM} {S : sS} {r : Nat} (hr : r < 6) (hX : RM S σ) (ho : sR S r = none) : Ret E mX10_askedRow (d + 2) [zr E 102, .int (nI r)] σ (qI fun x τ => x = -3 ∧ τ = mMt σ 1) := by
  have t := tX10_askedRow (E := E) (d := d) (σ := σ) (r := nI r)
  unfold mAr at t
  rwa [if_neg (fun q => q (inN_nI hr (by omega))), nI_clamp (by omega), if_pos (((hX.1 r hr).neg (by decide)).mpr ho)] at t
theorem tX10_aR3 {E : zE} {d : Nat} {σ : zM} {S : sS} {r : Nat} {q : Nat × (Nat → Int32)} (hr : r < 6) (hX : RM S σ) (ho : sR S r = some q) : Ret E mX10_askedRow (d + 2) [zr E 102, .int (nI r)] σ (qI fun x τ => x = nI 0 ∧ τ = σ) := by
  have t := tX10_askedRow (E := E) (d := d) (σ := σ) (r := nI r)
  unfold mAr at t
  rwa [if_neg (fun q => q (inN_nI hr (by omega))), nI_clamp (by omega), if_neg (fun z => absurd (((hX.1 r hr).neg (by decide)).mp z) (by show ¬ sR S r = none; rw [ho]; exact fun h => by cases h))] at t
theorem tX10_aT1 {E : zE} {d : Nat} {σ : zM} {r : Int32} (h : ¬ inN r 4) : Ret E mX10_askedText (d + 2) [zr E 102, .int r] σ (qI fun x τ => x = -1 ∧ τ = σ) := by
  have t := tX10_askedText (E := E) (d := d) (σ := σ) (r := r)
  unfold mAr at t
  rwa [if_pos h] at t
theorem tX10_aT2 {E : zE} {d : Nat} {σ : zM} {S : sS} {r : Nat} (hr : r < 4) (hX : RM S σ) (ho : sT S r = none) : Ret E mX10_askedText (d + 2) [zr E 102, .int (nI r)] σ (qI fun x τ => x = -3 ∧ τ = mMt σ 1) := by
  have t := tX10_askedText (E := E) (d := d) (σ := σ) (r := nI r)
  unfold mAr at t
  rwa [if_neg (fun q => q (inN_nI hr (by omega))), nI_clamp (by omega), if_pos (((hX.2.1 r hr).neg (by decide)).mpr ho)] at t
theorem tX10_aT3 {E : zE} {d : Nat} {σ : zM} {S : sS} {r : Nat} {q : Nat × (Nat → Int32)} (hr : r < 4) (hX : RM S σ) (ho : sT S r = some q) : Ret E mX10_askedText (d + 2) [zr E 102, .int (nI r)] σ (qI fun x τ => x = nI 0 ∧ τ = σ) := by
  have t := tX10_askedText (E := E) (d := d) (σ := σ) (r := nI r)
  unfold mAr at t
  rwa [if_neg (fun q => q (inN_nI hr (by omega))), nI_clamp (by omega), if_neg (fun z => absurd (((hX.2.1 r hr).neg (by decide)).mp z) (by show ¬ sT S r = none; rw [ho]; exact fun h => by cases h))] at t
set_option maxRecDepth 20000 in
theorem tX10_at {E : zE} {d : Nat} {σ : zM} {S : sS} {r i : Int32} (hW : WF S) (hX : RM S σ) : Ret E mX10_at (d + 3) [zr E 102, .int r, .int i] σ (qM σ (spAt S r i)) := by
  by_cases h0 : inN r 6
  · obtain ⟨r, hr, rfl⟩ := inN_of h0
    have hc : r < 2 ^ 31 := by omega
    have e0 : spAt S (nI r) i = if sPf (sR S r) i = 0 then sAsk S (sGet (sR S r) i.toNatClampNeg) (nI 1) else sFd S (sPf (sR S r) i) := (if_neg (fun q => q h0)).trans (by rw [nI_clamp hc])
    cases ho : sR S r with
    | none =>
      rw [ho] at e0
      refine Ret.of [some (zr E 102), some (.int (nI r)), some (.int i), none] (by decide +kernel) (Nat.le_of_ble_eq_true rfl) rfl ?_
      refine z_aload_n 1 dX10_at_0 rfl rfl ?_
      refine z_iload_n 2 dX10_at_1 rfl rfl ?_
      refine z_cVI1 5 (tX10_aR2 hr hX ho) kX10_askedRow dX10_at_2 rfl lX10_110 (by first | assumption | rfl) (Nat.le_of_ble_eq_true rfl) ?_
      rintro _ _ ⟨e1, e2⟩
      replace e1 := e1.symm
      replace e2 := e2.symm
      subst e1
      subst e2
      refine zs_istore_n_3_4 6 rfl dX10_at_5 rfl rfl ?_
      refine z_iload_n 7 dX10_at_6 rfl rfl ?_
      refine z_if_ge 12 10 dX10_at_7 (by decide) rfl (fun h7 => ?_) (fun h7 => ?_)
      · (try rw [nI_ge0 (by omega)] at h7)
        exact absurd h7 (by decide)
      · (try rw [nI_ge0 (by omega)] at h7)
        refine z_iload_n 11 dX10_at_10 rfl rfl ?_
        refine z_ri dX10_at_11 rfl ?_
        exact qmf hW e0 (by decide) hX Fr.rf
    | some q =>
      rw [ho] at e0
      have hS : mSh σ 104 105 r 40 (some q) := by rw [← ho]; exact hX.1 r hr
      have h40 := hS.1
      have hs : gi σ 104 r = nI q.1 := hS.2.1
      refine Ret.of [some (zr E 102), some (.int (nI r)), some (.int i), none] (by decide +kernel) (Nat.le_of_ble_eq_true rfl) rfl ?_
      refine z_aload_n 1 dX10_at_0 rfl rfl ?_
      refine z_iload_n 2 dX10_at_1 rfl rfl ?_
      refine z_cVI1 5 (tX10_aR3 hr hX ho) kX10_askedRow dX10_at_2 rfl lX10_110 (by first | assumption | rfl) (Nat.le_of_ble_eq_true rfl) ?_
      rintro _ _ ⟨e1, e2⟩
      replace e1 := e1.symm
      replace e2 := e2.symm
      subst e1
      subst e2
      refine zs_istore_n_3_4 6 rfl dX10_at_5 rfl rfl ?_
      refine z_iload_n 7 dX10_at_6 rfl rfl ?_
      refine z_if_ge 12 10 dX10_at_7 (by decide) rfl (fun h7 => ?_) (fun h7 => ?_)
      · refine z_iload_n 13 dX10_at_12 rfl rfl ?_
        refine z_iconst 14 (v := nI 0) dX10_at_13 rfl rfl ?_
        refine z_aload_n 15 dX10_at_14 rfl rfl ?_
        refine gX10_17 18 rfl dX10_at_15 rfl ?_
        refine z_iload_n 19 dX10_at_18 rfl rfl ?_
        refine z_ialdn 20 dX10_at_19 rfl (by first | assumption | rfl) (by omega) ?_
        rw [hs]
        refine z_iconst 21 (v := nI 1) dX10_at_20 rfl rfl ?_
        refine z_isub 22 dX10_at_21 rfl ?_
        refine z_cSI3 25 (tX10_in) kX10_in dX10_at_22 rfl lX10_91 (Nat.le_of_ble_eq_true rfl) ?_
        rintro _ _ ⟨e1, e2⟩
        replace e1 := e1.symm
        replace e2 := e2.symm
        subst e1
        subst e2
        rw [in_n (by omega)]
        refine z_ifb_eq 42 28 dX10_at_25 (by decide) rfl (fun h25 => ?_) (fun h25 => ?_)
        · refine z_aload_n 43 dX10_at_42 rfl rfl ?_
          refine z_iconst 44 (v := nI 2) dX10_at_43 rfl rfl ?_
          refine z_cVI1 47 (tX10_meets (by omega)) kX10_meets dX10_at_44 rfl lX10_99 (by first | assumption | rfl) (Nat.le_of_ble_eq_true rfl) ?_
          rintro _ _ ⟨e1, e2⟩
          replace e1 := e1.symm
          replace e2 := e2.symm
          subst e1
          subst e2
          refine z_ri dX10_at_47 rfl ?_
          first | exact qmf hW (e0.trans (by rw [show sPf (some q) i = 2 from if_neg h25]; rfl)) (by decide) hX Fr.rf | exact qma hW (e0.trans (by rw [show sPf (some q) (nI i) = 0 from if_pos h25, hS.2.2 i hi]; rfl)) hX Fr.rf
        · obtain ⟨i, hi, rfl⟩ := inN_of h25
          rw [nI_clamp (by omega)] at e0
          refine z_aload_n 29 dX10_at_28 rfl rfl ?_
          refine z_aload_n 30 dX10_at_29 rfl rfl ?_
          refine z_iload_n 31 dX10_at_30 rfl rfl ?_
          refine z_iload_n 32 dX10_at_31 rfl rfl ?_
          refine z_cVI2 35 (tX10_rowAt (by omega) (by omega)) kX10_rowAt dX10_at_32 rfl lX10_113 (by first | assumption | rfl) (Nat.le_of_ble_eq_true rfl) ?_
          rintro _ _ ⟨e1, e2⟩
          replace e1 := e1.symm
          replace e2 := e2.symm
          subst e1
          subst e2
          refine z_iconst 36 (v := nI 1) dX10_at_35 rfl rfl ?_
          refine z_cVI2 39 (tX10_ask) kX10_ask dX10_at_36 rfl lX10_117 (by first | assumption | rfl) (Nat.le_of_ble_eq_true rfl) ?_
          rintro _ _ ⟨e1, e2⟩
          replace e1 := e1.symm
          replace e2 := e2.symm
          subst e1
          subst e2
          refine z_goto 47 dX10_at_39 rfl ?_
          refine z_ri dX10_at_47 rfl ?_
          first | exact qmf hW (e0.trans (by rw [show sPf (some q) i = 2 from if_neg h25]; rfl)) (by decide) hX Fr.rf | exact qma hW (e0.trans (by rw [show sPf (some q) (nI i) = 0 from if_pos h25, hS.2.2 i hi]; rfl)) hX Fr.rf
      · exact absurd (nI_pos' (by decide)) h7
  · refine Ret.of [some (zr E 102), some (.int r), some (.int i), none] (by decide +kernel) (Nat.le_of_ble_eq_true rfl) rfl ?_
    refine z_aload_n 1 dX10_at_0 rfl rfl ?_
    refine z_iload_n 2 dX10_at_1 rfl rfl ?_
    refine z_cVI1 5 (tX10_aR1 h0) kX10_askedRow dX10_at_2 rfl lX10_110 (by first | assumption | rfl) (Nat.le_of_ble_eq_true rfl) ?_
    rintro _ _ ⟨e1, e2⟩
    replace e1 := e1.symm
    replace e2 := e2.symm
    subst e1
    subst e2
    refine zs_istore_n_3_4 6 rfl dX10_at_5 rfl rfl ?_
    refine z_iload_n 7 dX10_at_6 rfl rfl ?_
    refine z_if_ge 12 10 dX10_at_7 (by decide) rfl (fun h7 => ?_) (fun h7 => ?_)
    · (try rw [nI_ge0 (by omega)] at h7)
      exact absurd h7 (by decide)
    · (try rw [nI_ge0 (by omega)] at h7)
      refine z_iload_n 11 dX10_at_10 rfl rfl ?_
      refine z_ri dX10_at_11 rfl ?_
      exact qm0 (if_pos h0) hX Fr.rf
set_option maxRecDepth 20000 in
theorem tX10_lay {E : zE} {d : Nat} {σ : zM} {S : sS} {r i v : Int32} (hW : WF S) (hX : RM S σ) : Ret E mX10_lay (d + 4) [zr E 102, .int r, .int i, .int v] σ (qM σ (spLay S r i v)) := by
  by_cases h0 : inN r 6
  · obtain ⟨r, hr, rfl⟩ := inN_of h0
    have hc : r < 2 ^ 31 := by omega
    have e0 : spAt S (nI r) i = if sPf (sR S r) i = 0 then sAsk S (sGet (sR S r) i.toNatClampNeg) (nI 1) else sFd S (sPf (sR S r) i) := (if_neg (fun q => q h0)).trans (by rw [nI_clamp hc])
    have e1 : spLay S (nI r) i v = if sPf (sR S r) i = 0 then sAsk (setR S r (sSet (sR S r) i.toNatClampNeg v)) (sGet (sR S r) i.toNatClampNeg) (nI 1) else sFd S (sPf (sR S r) i) := (if_neg (fun q => q h0)).trans (by rw [nI_clamp hc])
    by_cases hp : sPf (sR S r) i = 0
    · rw [if_pos hp] at e0 e1
      obtain ⟨q, i, ho, hi, rfl⟩ := sPf0 hp
      have hS : mSh σ 104 105 r 40 (some q) := by rw [← ho]; exact hX.1 r hr
      have h40 := hS.1
      rw [nI_clamp (by omega)] at e0 e1
      refine Ret.of [some (zr E 102), some (.int (nI r)), some (.int (nI i)), some (.int v), none] (by decide +kernel) (Nat.le_of_ble_eq_true rfl) rfl ?_
      refine z_aload_n 1 dX10_lay_0 rfl rfl ?_
      refine z_iload_n 2 dX10_lay_1 rfl rfl ?_
      refine z_iload_n 3 dX10_lay_2 rfl rfl ?_
      refine z_cVI2 6 (tX10_at hW hX) kX10_at dX10_lay_3 rfl lX10_120 (by first | assumption | rfl) (Nat.le_of_ble_eq_true rfl) ?_
      rintro x1 τ1 ⟨hx1, hR1, hF1⟩
      rw [e0] at hx1 hR1
      subst hx1
      have hx1 : (sAsk S (sGet (sR S r) i) (nI 1)).1 = nI 1 := rfl
      rw [hx1]
      refine zs_istore_4_5 8 rfl dX10_lay_6 rfl rfl ?_
      refine z_iload 10 dX10_lay_8 rfl rfl ?_
      refine z_if_ge 16 13 dX10_lay_10 (by decide) rfl (fun h10 => ?_) (fun h10 => ?_)
      · refine z_aload_n 17 dX10_lay_16 rfl rfl ?_
        refine z_iload_n 18 dX10_lay_17 rfl rfl ?_
        refine z_iload_n 19 dX10_lay_18 rfl rfl ?_
        refine z_iload_n 20 dX10_lay_19 rfl rfl ?_
        refine z_cVV3 23 (tX10_setRow (by omega) (by omega)) kX10_setRow dX10_lay_20 rfl lX10_106 (by first | assumption | rfl) (Nat.le_of_ble_eq_true rfl) ?_
        rintro _ e2
        replace e2 := e2.symm
        subst e2
        refine z_iconst 24 (v := nI 1) dX10_lay_23 rfl rfl ?_
        refine z_ri dX10_lay_24 rfl ?_
        rw [e1]
        have hf : Fr (fun x y => x = 104 ∧ y = r ∨ x = 105 ∧ 40 * r ≤ y ∧ y < 40 * r + 40) τ1 (si τ1 105 (40 * r + i) v) := Fr.rf.si _ (by omega)
        have hS1 : mSh τ1 104 105 r 40 (some q) := by rw [← ho]; exact hR1.1 r hr
        refine ⟨rfl, hR1.R (WF_A hW _) (o := sSet (sR S r) i v) hf hr ?_, hF1.tr hf (fun _ _ h => h) (by intros; omega)⟩
        rw [ho]
        refine ⟨h40, (gi_s2 _ _ (by omega)).trans hS1.2.1, fun j hj => ?_⟩
        show _ = zu q.2 i v j
        unfold zu
        rw [gi_si]
        by_cases hij : j = i
        · rw [if_pos ⟨rfl, by omega⟩, if_pos hij]
        · rw [if_neg (by omega), if_neg hij]; exact hS1.2.2 j hj
      · exact absurd (nI_pos' (by decide)) h10
    · rw [if_neg hp] at e0 e1
      refine Ret.of [some (zr E 102), some (.int (nI r)), some (.int i), some (.int v), none] (by decide +kernel) (Nat.le_of_ble_eq_true rfl) rfl ?_
      refine z_aload_n 1 dX10_lay_0 rfl rfl ?_
      refine z_iload_n 2 dX10_lay_1 rfl rfl ?_
      refine z_iload_n 3 dX10_lay_2 rfl rfl ?_
      refine z_cVI2 6 (tX10_at hW hX) kX10_at dX10_lay_3 rfl lX10_120 (by first | assumption | rfl) (Nat.le_of_ble_eq_true rfl) ?_
      rintro x1 τ1 ⟨hx1, hR1, hF1⟩
      rw [e0] at hx1 hR1
      subst hx1
      have hx1 : (sFd S (sPf (sR S r) i)).1 = -3 := rfl
      rw [hx1]
      refine zs_istore_4_5 8 rfl dX10_lay_6 rfl rfl ?_
      refine z_iload 10 dX10_lay_8 rfl rfl ?_
      refine z_if_ge 16 13 dX10_lay_10 (by decide) rfl (fun h10 => ?_) (fun h10 => ?_)
      · (try rw [nI_ge0 (by omega)] at h10)
        exact absurd h10 (by decide)
      · (try rw [nI_ge0 (by omega)] at h10)
        refine z_iload 15 dX10_lay_13 rfl rfl ?_
        refine z_ri dX10_lay_15 rfl ?_
        rw [e1]
        exact ⟨rfl, hR1, hF1⟩
  · have e0 : spAt S r i = (-1, S) := if_pos h0
    refine Ret.of [some (zr E 102), some (.int r), some (.int i), some (.int v), none] (by decide +kernel) (Nat.le_of_ble_eq_true rfl) rfl ?_
    refine z_aload_n 1 dX10_lay_0 rfl rfl ?_
    refine z_iload_n 2 dX10_lay_1 rfl rfl ?_
    refine z_iload_n 3 dX10_lay_2 rfl rfl ?_
    refine z_cVI2 6 (tX10_at hW hX) kX10_at dX10_lay_3 rfl lX10_120 (by first | assumption | rfl) (Nat.le_of_ble_eq_true rfl) ?_
    rintro x1 τ1 ⟨hx1, hR1, hF1⟩
    rw [e0] at hx1 hR1
    subst hx1
    dsimp only
    refine zs_istore_4_5 8 rfl dX10_lay_6 rfl rfl ?_
    refine z_iload 10 dX10_lay_8 rfl rfl ?_
    refine z_if_ge 16 13 dX10_lay_10 (by decide) rfl (fun h10 => ?_) (fun h10 => ?_)
    · (try rw [nI_ge0 (by omega)] at h10)
      exact absurd h10 (by decide)
    · (try rw [nI_ge0 (by omega)] at h10)
      refine z_iload 15 dX10_lay_13 rfl rfl ?_
      refine z_ri dX10_lay_15 rfl ?_
      exact qm0 (if_pos h0) hR1 hF1
set_option maxRecDepth 20000 in
theorem tX10_tear {E : zE} {d : Nat} {σ : zM} {S : sS} {r : Int32} (hW : WF S) (hX : RM S σ) : Ret E mX10_tear (d + 3) [zr E 102, .int r] σ (qM σ (spTear S r)) := by
  by_cases h0 : inN r 6
  · obtain ⟨r, hr, rfl⟩ := inN_of h0
    have hc : r < 2 ^ 31 := by omega
    have e0 : spTear S (nI r) = if sR S r = none then sFd S 1 else (nI 1, setR S r none) := (if_neg (fun q => q h0)).trans (by rw [nI_clamp hc])
    cases ho : sR S r with
    | none =>
      rw [if_pos ho] at e0
      refine Ret.of [some (zr E 102), some (.int (nI r)), none] (by decide +kernel) (Nat.le_of_ble_eq_true rfl) rfl ?_
      refine z_aload_n 1 dX10_tear_0 rfl rfl ?_
      refine z_iload_n 2 dX10_tear_1 rfl rfl ?_
      refine z_cVI1 5 (tX10_aR2 hr hX ho) kX10_askedRow dX10_tear_2 rfl lX10_110 (by first | assumption | rfl) (Nat.le_of_ble_eq_true rfl) ?_
      rintro _ _ ⟨e1, e2⟩
      replace e1 := e1.symm
      replace e2 := e2.symm
      subst e1
      subst e2
      refine zs_istore_n_2_3 6 rfl dX10_tear_5 rfl rfl ?_
      refine z_iload_n 7 dX10_tear_6 rfl rfl ?_
      refine z_if_ge 12 10 dX10_tear_7 (by decide) rfl (fun h7 => ?_) (fun h7 => ?_)
      · (try rw [nI_ge0 (by omega)] at h7)
        exact absurd h7 (by decide)
      · (try rw [nI_ge0 (by omega)] at h7)
        refine z_iload_n 11 dX10_tear_10 rfl rfl ?_
        refine z_ri dX10_tear_11 rfl ?_
        exact qmf hW e0 (by decide) hX Fr.rf
    | some q =>
      rw [if_neg (by rw [ho]; exact fun h => by cases h)] at e0
      refine Ret.of [some (zr E 102), some (.int (nI r)), none] (by decide +kernel) (Nat.le_of_ble_eq_true rfl) rfl ?_
      refine z_aload_n 1 dX10_tear_0 rfl rfl ?_
      refine z_iload_n 2 dX10_tear_1 rfl rfl ?_
      refine z_cVI1 5 (tX10_aR3 hr hX ho) kX10_askedRow dX10_tear_2 rfl lX10_110 (by first | assumption | rfl) (Nat.le_of_ble_eq_true rfl) ?_
      rintro _ _ ⟨e1, e2⟩
      replace e1 := e1.symm
      replace e2 := e2.symm
      subst e1
      subst e2
      refine zs_istore_n_2_3 6 rfl dX10_tear_5 rfl rfl ?_
      refine z_iload_n 7 dX10_tear_6 rfl rfl ?_
      refine z_if_ge 12 10 dX10_tear_7 (by decide) rfl (fun h7 => ?_) (fun h7 => ?_)
      · refine z_aload_n 13 dX10_tear_12 rfl rfl ?_
        refine gX10_17 16 rfl dX10_tear_13 rfl ?_
        refine z_iload_n 17 dX10_tear_16 rfl rfl ?_
        refine z_bipush 19 (v := (-9)) dX10_tear_17 rfl rfl ?_
        refine z_iastn 20 dX10_tear_19 rfl (by first | assumption | rfl) (by omega) ?_
        refine z_iconst 21 (v := nI 1) dX10_tear_20 rfl rfl ?_
        refine z_ri dX10_tear_21 rfl ?_
        exact qm0 e0 (hX.R hW (o := none) (Fr.rf.si _ (Or.inl ⟨rfl, rfl⟩)) hr (gi_s1 _ _ _ _)) (Fr.rf.si _ (by show 102 ≤ 104; omega))
      · exact absurd (nI_pos' (by decide)) h7
  · refine Ret.of [some (zr E 102), some (.int r), none] (by decide +kernel) (Nat.le_of_ble_eq_true rfl) rfl ?_
    refine z_aload_n 1 dX10_tear_0 rfl rfl ?_
    refine z_iload_n 2 dX10_tear_1 rfl rfl ?_
    refine z_cVI1 5 (tX10_aR1 h0) kX10_askedRow dX10_tear_2 rfl lX10_110 (by first | assumption | rfl) (Nat.le_of_ble_eq_true rfl) ?_
    rintro _ _ ⟨e1, e2⟩
    replace e1 := e1.symm
    replace e2 := e2.symm
    subst e1
    subst e2
    refine zs_istore_n_2_3 6 rfl dX10_tear_5 rfl rfl ?_
    refine z_iload_n 7 dX10_tear_6 rfl rfl ?_
    refine z_if_ge 12 10 dX10_tear_7 (by decide) rfl (fun h7 => ?_) (fun h7 => ?_)
    · (try rw [nI_ge0 (by omega)] at h7)
      exact absurd h7 (by decide)
    · (try rw [nI_ge0 (by omega)] at h7)
      refine z_iload_n 11 dX10_tear_10 rfl rfl ?_
      refine z_ri dX10_tear_11 rfl ?_
      exact qm0 (if_pos h0) hX Fr.rf
set_option maxRecDepth 20000 in
theorem tX10_text {E : zE} {d : Nat} {σ : zM} {S : sS} {r n : Int32} (hW : WF S) (hX : RM S σ) : Ret E mX10_text (d + 2) [zr E 102, .int r, .int n] σ (qM σ (spText S r n)) := by
  by_cases hA : ¬ inN r 4 ∨ nI 120 < n
  · refine Ret.of [some (zr E 102), some (.int r), some (.int n), none] (by decide +kernel) (Nat.le_of_ble_eq_true rfl) rfl ?_
    refine z_iload_n 1 dX10_text_0 rfl rfl ?_
    refine z_cSI1 4 (tX10_isText) kX10_isText dX10_text_1 rfl lX10_103 (Nat.le_of_ble_eq_true rfl) ?_
    rintro _ _ ⟨e1, e2⟩
    replace e1 := e1.symm
    replace e2 := e2.symm
    subst e1
    subst e2
    refine z_ifb_eq 13 7 dX10_text_4 (by decide) rfl (fun h4 => ?_) (fun h4 => ?_)
    · refine z_iconst 14 (v := (-1)) dX10_text_13 rfl rfl ?_
      refine z_ri dX10_text_14 rfl ?_
      exact qm0 (if_pos hA) hX Fr.rf
    · refine z_iload_n 8 dX10_text_7 rfl rfl ?_
      refine z_bipush 10 (v := nI 120) dX10_text_8 rfl rfl ?_
      refine z_icmp_le 15 13 dX10_text_10 (by decide) rfl (fun h10 => ?_) (fun h10 => ?_)
      · (try rw [nI_leI (by omega) (by omega)] at h10)
        exact absurd hA (fun z => z.elim (fun q => q h4) (fun q => Int32.not_lt.mpr h10 q))
      · (try rw [nI_leI (by omega) (by omega)] at h10)
        refine z_iconst 14 (v := (-1)) dX10_text_13 rfl rfl ?_
        refine z_ri dX10_text_14 rfl ?_
        exact qm0 (if_pos hA) hX Fr.rf
  · have hA1 : inN r 4 := Classical.byContradiction fun q => hA (Or.inl q)
    have hA2 : n ≤ nI 120 := Int32.not_lt.mp fun q => hA (Or.inr q)
    by_cases hB : n < 0
    · refine Ret.of [some (zr E 102), some (.int r), some (.int n), none] (by decide +kernel) (Nat.le_of_ble_eq_true rfl) rfl ?_
      refine z_iload_n 1 dX10_text_0 rfl rfl ?_
      refine z_cSI1 4 (tX10_isText) kX10_isText dX10_text_1 rfl lX10_103 (Nat.le_of_ble_eq_true rfl) ?_
      rintro _ _ ⟨e1, e2⟩
      replace e1 := e1.symm
      replace e2 := e2.symm
      subst e1
      subst e2
      refine z_ifb_eq 13 7 dX10_text_4 (by decide) rfl (fun h4 => ?_) (fun h4 => ?_)
      · exact absurd hA1 h4
      · refine z_iload_n 8 dX10_text_7 rfl rfl ?_
        refine z_bipush 10 (v := nI 120) dX10_text_8 rfl rfl ?_
        refine z_icmp_le 15 13 dX10_text_10 (by decide) rfl (fun h10 => ?_) (fun h10 => ?_)
        · (try rw [nI_leI (by omega) (by omega)] at h10)
          refine z_iload_n 16 dX10_text_15 rfl rfl ?_
          refine z_if_ge 25 19 dX10_text_16 (by decide) rfl (fun h16 => ?_) (fun h16 => ?_)
          · (try rw [nI_ge0 (by omega)] at h16)
            exact absurd hB (Int32.not_lt.mpr h16)
          · (try rw [nI_ge0 (by omega)] at h16)
            refine z_aload_n 20 dX10_text_19 rfl rfl ?_
            refine z_iconst 21 (v := nI 5) dX10_text_20 rfl rfl ?_
            refine z_cVI1 24 (tX10_meets (by omega)) kX10_meets dX10_text_21 rfl lX10_99 (by first | assumption | rfl) (Nat.le_of_ble_eq_true rfl) ?_
            rintro _ _ ⟨e1, e2⟩
            replace e1 := e1.symm
            replace e2 := e2.symm
            subst e1
            subst e2
            refine z_ri dX10_text_24 rfl ?_
            exact qmf hW ((if_neg hA).trans (if_pos hB)) (by decide) hX Fr.rf
        · (try rw [nI_leI (by omega) (by omega)] at h10)
          exact absurd hA2 h10
    · obtain ⟨r, hr, rfl⟩ := inN_of hA1
      obtain ⟨n, hn, rfl⟩ := nI_of hB
      rw [nI_leI hn (by decide)] at hA2
      have e0 : spText S (nI r) (nI n) = (nI n, setT S r (some (n, fun _ => nI 32))) := by
        unfold spText
        rw [if_neg hA, if_neg hB, nI_clamp hn, nI_clamp (by omega)]
      refine Ret.of [some (zr E 102), some (.int (nI r)), some (.int (nI n)), none] (by decide +kernel) (Nat.le_of_ble_eq_true rfl) rfl ?_
      have loop : ∀ i, i ≤ 120 → ∀ τ, Fr (fun x y => x = 107 ∧ y = r ∨ x = 108 ∧ 120 * r ≤ y ∧ y < 120 * r + 120) σ τ → gi τ 107 r = nI n → (∀ j, j < i → gi τ 108 (120 * r + j) = nI 32) → At E mX10_text (d + 2) (qM σ (spText S (nI r) (nI n))) 34 [some (zr E 102), some (.int (nI r)), some (.int (nI n)), some (.int (nI i))] [] τ := by
        refine z_up (fun i hi ih τ hF hs hv => ?_)
        refine z_iload_n 35 dX10_text_34 rfl rfl ?_
        refine z_bipush 37 (v := nI 120) dX10_text_35 rfl rfl ?_
        refine z_icmp_ge 59 40 dX10_text_37 (by decide) rfl (fun h37 => ?_) (fun h37 => ?_)
        · (try rw [nI_leI (by omega) (by omega)] at h37)
          refine z_iload_n 60 dX10_text_59 rfl rfl ?_
          refine z_ri dX10_text_60 rfl ?_
          exact qm0 e0 (hX.T hW hF hr ⟨hA2, hs, fun j hj => hv j (by have h2 : j < n := hj; omega)⟩) (hF.mono (by intros; omega))
        · (try rw [nI_leI (by omega) (by omega)] at h37)
          refine z_aload_n 41 dX10_text_40 rfl rfl ?_
          refine gX10_29 44 rfl dX10_text_41 rfl ?_
          refine z_bipush 46 (v := nI 120) dX10_text_44 rfl rfl ?_
          refine z_iload_n 47 dX10_text_46 rfl rfl ?_
          refine z_imul 48 dX10_text_47 rfl ?_
          refine z_iload_n 49 dX10_text_48 rfl rfl ?_
          refine z_iadd 50 dX10_text_49 rfl ?_
          rw [nI_mul, nI_add]
          refine z_bipush 52 (v := nI 32) dX10_text_50 rfl rfl ?_
          refine z_iastn 53 dX10_text_52 rfl (by first | assumption | rfl) (by omega) ?_
          refine zs_iinc_3_4_1 56 rfl dX10_text_53 rfl rfl ?_
          rw [nI_add]
          refine z_goto 34 dX10_text_56 rfl ?_
          refine ih (i + 1) (by omega) (by omega) _ (hF.si _ (by omega)) (by rw [gi_s2 _ _ (by omega)]; exact hs) (fun j hj => ?_)
          rw [gi_si]
          by_cases hij : j = i
          · rw [if_pos ⟨rfl, by omega⟩]
          · rw [if_neg (by omega)]; exact hv j (by omega)
      refine z_iload_n 1 dX10_text_0 rfl rfl ?_
      refine z_cSI1 4 (tX10_isText) kX10_isText dX10_text_1 rfl lX10_103 (Nat.le_of_ble_eq_true rfl) ?_
      rintro _ _ ⟨e1, e2⟩
      replace e1 := e1.symm
      replace e2 := e2.symm
      subst e1
      subst e2
      refine z_ifb_eq 13 7 dX10_text_4 (by decide) rfl (fun h4 => ?_) (fun h4 => ?_)
      · exact absurd hA1 h4
      · refine z_iload_n 8 dX10_text_7 rfl rfl ?_
        refine z_bipush 10 (v := nI 120) dX10_text_8 rfl rfl ?_
        refine z_icmp_le 15 13 dX10_text_10 (by decide) rfl (fun h10 => ?_) (fun h10 => ?_)
        · (try rw [nI_leI (by omega) (by omega)] at h10)
          refine z_iload_n 16 dX10_text_15 rfl rfl ?_
          refine z_if_ge 25 19 dX10_text_16 (by decide) rfl (fun h16 => ?_) (fun h16 => ?_)
          · refine z_aload_n 26 dX10_text_25 rfl rfl ?_
            refine gX10_26 29 rfl dX10_text_26 rfl ?_
            refine z_iload_n 30 dX10_text_29 rfl rfl ?_
            refine z_iload_n 31 dX10_text_30 rfl rfl ?_
            refine z_iastn 32 dX10_text_31 rfl (by first | assumption | rfl) (by omega) ?_
            refine z_iconst 33 (v := nI 0) dX10_text_32 rfl rfl ?_
            refine zs_istore_n_3_4 34 rfl dX10_text_33 rfl rfl ?_
            exact loop 0 (Nat.zero_le _) _ (Fr.rf.si _ (Or.inl ⟨rfl, rfl⟩)) (gi_s1 _ _ _ _) (fun j hj => absurd hj (Nat.not_lt_zero j))
          · exact absurd (nI_pos' (by omega)) h16
        · (try rw [nI_leI (by omega) (by omega)] at h10)
          exact absurd hA2 h10
set_option maxRecDepth 20000 in
theorem tX10_put {E : zE} {d : Nat} {σ : zM} {S : sS} {r i v : Int32} (hW : WF S) (hX : RM S σ) : Ret E mX10_put (d + 3) [zr E 102, .int r, .int i, .int v] σ (qM σ (spPut S r i v)) := by
  by_cases h0 : inN r 4
  · obtain ⟨r, hr, rfl⟩ := inN_of h0
    have hc : r < 2 ^ 31 := by omega
    have e0 : spPut S (nI r) i v = if sPf (sT S r) i = 0 then (sGet (sT S r) i.toNatClampNeg + nI 1000, setT S r (sSet (sT S r) i.toNatClampNeg v.toInt8.toInt32)) else sFd S (sPf (sT S r) i) := (if_neg (fun q => q h0)).trans (by rw [nI_clamp hc])
    cases ho : sT S r with
    | none =>
      rw [ho] at e0
      refine Ret.of [some (zr E 102), some (.int (nI r)), some (.int i), some (.int v), none, none] (by decide +kernel) (Nat.le_of_ble_eq_true rfl) rfl ?_
      refine z_aload_n 1 dX10_put_0 rfl rfl ?_
      refine z_iload_n 2 dX10_put_1 rfl rfl ?_
      refine z_cVI1 5 (tX10_aT2 hr hX ho) kX10_askedText dX10_put_2 rfl lX10_123 (by first | assumption | rfl) (Nat.le_of_ble_eq_true rfl) ?_
      rintro _ _ ⟨e1, e2⟩
      replace e1 := e1.symm
      replace e2 := e2.symm
      subst e1
      subst e2
      refine zs_istore_4_6 7 rfl dX10_put_5 rfl rfl ?_
      refine z_iload 9 dX10_put_7 rfl rfl ?_
      refine z_if_ge 15 12 dX10_put_9 (by decide) rfl (fun h9 => ?_) (fun h9 => ?_)
      · (try rw [nI_ge0 (by omega)] at h9)
        exact absurd h9 (by decide)
      · (try rw [nI_ge0 (by omega)] at h9)
        refine z_iload 14 dX10_put_12 rfl rfl ?_
        refine z_ri dX10_put_14 rfl ?_
        exact qmf hW e0 (by decide) hX Fr.rf
    | some q =>
      rw [ho] at e0
      have hS : mSh σ 107 108 r 120 (some q) := by rw [← ho]; exact hX.2.1 r hr
      have h40 := hS.1
      have hs : gi σ 107 r = nI q.1 := hS.2.1
      refine Ret.of [some (zr E 102), some (.int (nI r)), some (.int i), some (.int v), none, none] (by decide +kernel) (Nat.le_of_ble_eq_true rfl) rfl ?_
      refine z_aload_n 1 dX10_put_0 rfl rfl ?_
      refine z_iload_n 2 dX10_put_1 rfl rfl ?_
      refine z_cVI1 5 (tX10_aT3 hr hX ho) kX10_askedText dX10_put_2 rfl lX10_123 (by first | assumption | rfl) (Nat.le_of_ble_eq_true rfl) ?_
      rintro _ _ ⟨e1, e2⟩
      replace e1 := e1.symm
      replace e2 := e2.symm
      subst e1
      subst e2
      refine zs_istore_4_6 7 rfl dX10_put_5 rfl rfl ?_
      refine z_iload 9 dX10_put_7 rfl rfl ?_
      refine z_if_ge 15 12 dX10_put_9 (by decide) rfl (fun h9 => ?_) (fun h9 => ?_)
      · refine z_iload_n 16 dX10_put_15 rfl rfl ?_
        refine z_iconst 17 (v := nI 0) dX10_put_16 rfl rfl ?_
        refine z_aload_n 18 dX10_put_17 rfl rfl ?_
        refine gX10_26 21 rfl dX10_put_18 rfl ?_
        refine z_iload_n 22 dX10_put_21 rfl rfl ?_
        refine z_ialdn 23 dX10_put_22 rfl (by first | assumption | rfl) (by omega) ?_
        rw [hs]
        refine z_iconst 24 (v := nI 1) dX10_put_23 rfl rfl ?_
        refine z_isub 25 dX10_put_24 rfl ?_
        refine z_cSI3 28 (tX10_in) kX10_in dX10_put_25 rfl lX10_91 (Nat.le_of_ble_eq_true rfl) ?_
        rintro _ _ ⟨e1, e2⟩
        replace e1 := e1.symm
        replace e2 := e2.symm
        subst e1
        subst e2
        rw [in_n (by omega)]
        refine z_ifb_ne 37 31 dX10_put_28 (by decide) rfl (fun h28 => ?_) (fun h28 => ?_)
        · obtain ⟨i, hi, rfl⟩ := inN_of h28
          rw [nI_clamp (by omega), show sPf (some q) (nI i) = 0 from if_pos h28] at e0
          refine z_aload_n 38 dX10_put_37 rfl rfl ?_
          refine gX10_29 41 rfl dX10_put_38 rfl ?_
          refine z_bipush 43 (v := nI 120) dX10_put_41 rfl rfl ?_
          refine z_iload_n 44 dX10_put_43 rfl rfl ?_
          refine z_imul 45 dX10_put_44 rfl ?_
          refine z_iload_n 46 dX10_put_45 rfl rfl ?_
          refine z_iadd 47 dX10_put_46 rfl ?_
          rw [nI_mul, nI_add]
          refine z_ialdn 48 dX10_put_47 rfl (by first | assumption | rfl) (by omega) ?_
          refine zs_istore_5_6 50 rfl dX10_put_48 rfl rfl ?_
          refine z_aload_n 51 dX10_put_50 rfl rfl ?_
          refine gX10_29 54 rfl dX10_put_51 rfl ?_
          refine z_bipush 56 (v := nI 120) dX10_put_54 rfl rfl ?_
          refine z_iload_n 57 dX10_put_56 rfl rfl ?_
          refine z_imul 58 dX10_put_57 rfl ?_
          refine z_iload_n 59 dX10_put_58 rfl rfl ?_
          refine z_iadd 60 dX10_put_59 rfl ?_
          rw [nI_mul, nI_add]
          refine z_iload_n 61 dX10_put_60 rfl rfl ?_
          refine z_i2b 62 dX10_put_61 rfl ?_
          refine z_iastn 63 dX10_put_62 rfl (by first | assumption | rfl) (by omega) ?_
          refine z_iload 65 dX10_put_63 rfl rfl ?_
          refine z_sipush 68 (v := nI 1000) dX10_put_65 rfl rfl ?_
          refine z_iadd 69 dX10_put_68 rfl ?_
          refine z_ri dX10_put_69 rfl ?_
          rw [hS.2.2 i hi]
          have hf : Fr (fun x y => x = 107 ∧ y = r ∨ x = 108 ∧ 120 * r ≤ y ∧ y < 120 * r + 120) σ (si σ 108 (120 * r + i) v.toInt8.toInt32) := Fr.rf.si _ (by omega)
          refine qm0 e0 (hX.T hW hf hr ⟨h40, (gi_s2 _ _ (by omega)).trans hS.2.1, fun j hj => ?_⟩) (hf.mono (by intros; omega))
          show _ = zu q.2 i v.toInt8.toInt32 j
          unfold zu
          rw [gi_si]
          by_cases hij : j = i
          · rw [if_pos ⟨rfl, by omega⟩, if_pos hij]
          · rw [if_neg (by omega), if_neg hij]; exact hS.2.2 j hj
        · refine z_aload_n 32 dX10_put_31 rfl rfl ?_
          refine z_iconst 33 (v := nI 2) dX10_put_32 rfl rfl ?_
          refine z_cVI1 36 (tX10_meets (by omega)) kX10_meets dX10_put_33 rfl lX10_99 (by first | assumption | rfl) (Nat.le_of_ble_eq_true rfl) ?_
          rintro _ _ ⟨e1, e2⟩
          replace e1 := e1.symm
          replace e2 := e2.symm
          subst e1
          subst e2
          refine z_ri dX10_put_36 rfl ?_
          exact qmf hW (e0.trans (by rw [show sPf (some q) i = 2 from if_neg h28]; rfl)) (by decide) hX Fr.rf
      · exact absurd (nI_pos' (by decide)) h9
  · refine Ret.of [some (zr E 102), some (.int r), some (.int i), some (.int v), none, none] (by decide +kernel) (Nat.le_of_ble_eq_true rfl) rfl ?_
    refine z_aload_n 1 dX10_put_0 rfl rfl ?_
    refine z_iload_n 2 dX10_put_1 rfl rfl ?_
    refine z_cVI1 5 (tX10_aT1 h0) kX10_askedText dX10_put_2 rfl lX10_123 (by first | assumption | rfl) (Nat.le_of_ble_eq_true rfl) ?_
    rintro _ _ ⟨e1, e2⟩
    replace e1 := e1.symm
    replace e2 := e2.symm
    subst e1
    subst e2
    refine zs_istore_4_6 7 rfl dX10_put_5 rfl rfl ?_
    refine z_iload 9 dX10_put_7 rfl rfl ?_
    refine z_if_ge 15 12 dX10_put_9 (by decide) rfl (fun h9 => ?_) (fun h9 => ?_)
    · (try rw [nI_ge0 (by omega)] at h9)
      exact absurd h9 (by decide)
    · (try rw [nI_ge0 (by omega)] at h9)
      refine z_iload 14 dX10_put_12 rfl rfl ?_
      refine z_ri dX10_put_14 rfl ?_
      exact qm0 (if_pos h0) hX Fr.rf
