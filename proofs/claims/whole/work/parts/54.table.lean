/-! tables: what is amiss -/
abbrev tbP (n : Nat) : Prop := 2 ≤ n ∧ n ≤ 8 ∧ n % 2 = 0
def sTf (S : sS) (o : sRow) : Nat := match o with
  | none => 1
  | some q => if ¬ tbP q.1 then 5 else if UB q.1 q.2 (sPc S) then 0 else 3
theorem sTf_lt (S : sS) (o : sRow) : sTf S o < 6 := by
  cases o with
  | none => exact (by decide : 1 < 6)
  | some q =>
    show (if ¬ tbP q.1 then 5 else if UB q.1 q.2 (sPc S) then 0 else 3) < 6
    split
    · decide
    · split <;> decide
/-- a table: so many seats, who sits there -/
def TbOK (S : sS) (n : Nat) (t : Nat → Nat) : Prop := tbP n ∧ ∀ i, i < n → t i < sPc S ∧ ∀ j, j < i → t i ≠ t j
theorem sTf0 {S : sS} {o : sRow} (h : sTf S o = 0) : ∃ q, o = some q ∧ TbOK S q.1 (gOf o) ∧ ∀ i, i < q.1 → q.2 i = nI (gOf o i) := by
  cases o with
  | none => exact absurd h (by show ¬ (1 = 0); decide)
  | some q =>
    have h : (if ¬ tbP q.1 then 5 else if UB q.1 q.2 (sPc S) then 0 else 3) = 0 := h
    by_cases h1 : ¬ tbP q.1
    · rw [if_pos h1] at h
      exact absurd h (by decide)
    · rw [if_neg h1] at h
      by_cases h2 : UB q.1 q.2 (sPc S)
      · have h3 := UB_pts h2
        exact ⟨q, rfl, ⟨Classical.not_not.mp h1, fun i hi => ⟨(h3 i hi).2.1, fun j hj => (h3 i hi).2.2 j hj⟩⟩, fun i hi => (h3 i hi).1⟩
      · rw [if_neg h2] at h
        exact absurd h (by decide)
set_option maxRecDepth 20000 in
theorem tX9_tableFault {E : zE} {d : Nat} {σ : zM} {S : sS} {r : Nat} (hW : WF S) (hX : RX S σ) (hr : r < 6) : Ret E mX9_tableFault (d + 1) [zr E 0, .int (nI r)] σ (qI fun x τ => x = nI (sTf S (sR S r)) ∧ τ = σ) := by
  have h8 := hW.2.1.1
  have hk := kd_r hr
  have hk1 := kd_r1 hr
  have hpm : gi σ 0 11 = nI (sPc S) := hX.2.2.2.1.1
  have hS : Sh σ (24 + 2 * r) 40 (sR S r) := hX.1 r hr
  refine Ret.of [some (zr E 0), some (.int (nI r)), none] (by decide +kernel) (Nat.le_of_ble_eq_true rfl) rfl ?_
  cases ho : sR S r with
  | none =>
    rw [ho] at hS
    refine z_aload_n 1 dX9_tableFault_0 rfl rfl ?_
    refine gX9_11 4 rfl dX9_tableFault_1 rfl ?_
    refine z_iload_n 5 dX9_tableFault_4 rfl rfl ?_
    refine z_aald1 6 dX9_tableFault_5 rfl (by omega) ?_
    refine zs_astore_n_2_3 7 rfl dX9_tableFault_6 rfl rfl ?_
    refine z_aload_n 8 dX9_tableFault_7 rfl rfl ?_
    refine z_cVI0 11 (tX7_isM hk hk1 hS) kX7_isMissing dX9_tableFault_8 rfl lX9_107 (by first | assumption | rfl) (Nat.le_of_ble_eq_true rfl) ?_
    rintro _ _ ⟨e1, e2⟩
    replace e1 := e1.symm
    replace e2 := e2.symm
    subst e1
    subst e2
    refine z_ifb_eq 16 14 dX9_tableFault_11 (by decide) rfl (fun h11 => ?_) (fun h11 => ?_)
    · exact absurd rfl h11
    · refine z_iconst 15 (v := nI 1) dX9_tableFault_14 rfl rfl ?_
      refine z_ri dX9_tableFault_15 rfl ?_
      exact ⟨rfl, rfl⟩
  | some q =>
    rw [ho] at hS
    have hs : gi σ (24 + 2 * r) 1 = nI q.1 := hS.2.1
    have hq : q.1 ≤ 40 := hS.1
    have e5 : ¬ tbP q.1 → sTf S (some q) = 5 := fun h => if_pos h
    have e0 : tbP q.1 → UB q.1 q.2 (sPc S) → sTf S (some q) = 0 := fun h h2 => by
      show (if ¬ tbP q.1 then 5 else if UB q.1 q.2 (sPc S) then 0 else 3) = 0
      rw [if_neg (fun z => z h), if_pos h2]
    have e3 : tbP q.1 → ¬ UB q.1 q.2 (sPc S) → sTf S (some q) = 3 := fun h h2 => by
      show (if ¬ tbP q.1 then 5 else if UB q.1 q.2 (sPc S) then 0 else 3) = 3
      rw [if_neg (fun z => z h), if_neg h2]
    refine z_aload_n 1 dX9_tableFault_0 rfl rfl ?_
    refine gX9_11 4 rfl dX9_tableFault_1 rfl ?_
    refine z_iload_n 5 dX9_tableFault_4 rfl rfl ?_
    refine z_aald1 6 dX9_tableFault_5 rfl (by omega) ?_
    refine zs_astore_n_2_3 7 rfl dX9_tableFault_6 rfl rfl ?_
    refine z_aload_n 8 dX9_tableFault_7 rfl rfl ?_
    refine z_cVI0 11 (tX7_isM hk hk1 hS) kX7_isMissing dX9_tableFault_8 rfl lX9_107 (by first | assumption | rfl) (Nat.le_of_ble_eq_true rfl) ?_
    rintro _ _ ⟨e1, e2⟩
    replace e1 := e1.symm
    replace e2 := e2.symm
    subst e1
    subst e2
    refine z_ifb_eq 16 14 dX9_tableFault_11 (by decide) rfl (fun h11 => ?_) (fun h11 => ?_)
    · refine z_aload_n 17 dX9_tableFault_16 rfl rfl ?_
      refine gX9_128 20 rfl dX9_tableFault_17 rfl (by first | assumption | rfl) ?_
      rw [hs]
      refine z_iconst 21 (v := nI 2) dX9_tableFault_20 rfl rfl ?_
      refine z_icmp_lt 42 24 dX9_tableFault_21 (by decide) rfl (fun h21 => ?_) (fun h21 => ?_)
      · (try rw [nI_ltI (by omega) (by omega)] at h21)
        refine z_iconst 43 (v := nI 5) dX9_tableFault_42 rfl rfl ?_
        refine z_ri dX9_tableFault_43 rfl ?_
        exact ⟨by rw [e5 (by omega)], rfl⟩
      · (try rw [nI_ltI (by omega) (by omega)] at h21)
        refine z_aload_n 25 dX9_tableFault_24 rfl rfl ?_
        refine gX9_128 28 rfl dX9_tableFault_25 rfl (by first | assumption | rfl) ?_
        rw [hs]
        refine z_bipush 30 (v := nI 8) dX9_tableFault_28 rfl rfl ?_
        refine z_icmp_gt 42 33 dX9_tableFault_30 (by decide) rfl (fun h30 => ?_) (fun h30 => ?_)
        · (try rw [nI_ltI (by omega) (by omega)] at h30)
          refine z_iconst 43 (v := nI 5) dX9_tableFault_42 rfl rfl ?_
          refine z_ri dX9_tableFault_43 rfl ?_
          exact ⟨by rw [e5 (by omega)], rfl⟩
        · (try rw [nI_ltI (by omega) (by omega)] at h30)
          refine z_aload_n 34 dX9_tableFault_33 rfl rfl ?_
          refine gX9_128 37 rfl dX9_tableFault_34 rfl (by first | assumption | rfl) ?_
          rw [hs]
          refine z_iconst 38 (v := nI 2) dX9_tableFault_37 rfl rfl ?_
          refine z_irem 39 dX9_tableFault_38 rfl (by decide) ?_
          rw [pk_rem (by omega) (by decide) (by decide)]
          refine z_if_eq 44 42 dX9_tableFault_39 (by decide) rfl (fun h39 => ?_) (fun h39 => ?_)
          · (try rw [nI_eq0 (by omega)] at h39)
            refine z_aload_n 45 dX9_tableFault_44 rfl rfl ?_
            refine z_aload_n 46 dX9_tableFault_45 rfl rfl ?_
            refine gX9_150 49 rfl dX9_tableFault_46 rfl ?_
            rw [hpm]
            refine z_cVI1 52 (tX7_isUnlikeBelow hk hk1 hS (by omega)) kX7_isUnlikeBelow dX9_tableFault_49 rfl lX9_405 (by first | assumption | rfl) (Nat.le_of_ble_eq_true rfl) ?_
            rintro _ _ ⟨e1, e2⟩
            replace e1 := e1.symm
            replace e2 := e2.symm
            subst e1
            subst e2
            refine z_ifb_eq 59 55 dX9_tableFault_52 (by decide) rfl (fun h52 => ?_) (fun h52 => ?_)
            · refine z_iconst 60 (v := nI 3) dX9_tableFault_59 rfl rfl ?_
              refine z_ri dX9_tableFault_60 rfl ?_
              first | exact ⟨by rw [e0 (by omega) h52], rfl⟩ | exact ⟨by rw [e3 (by omega) h52], rfl⟩
            · refine z_iconst 56 (v := nI 0) dX9_tableFault_55 rfl rfl ?_
              refine z_goto 60 dX9_tableFault_56 rfl ?_
              refine z_ri dX9_tableFault_60 rfl ?_
              first | exact ⟨by rw [e0 (by omega) h52], rfl⟩ | exact ⟨by rw [e3 (by omega) h52], rfl⟩
          · (try rw [nI_eq0 (by omega)] at h39)
            refine z_iconst 43 (v := nI 5) dX9_tableFault_42 rfl rfl ?_
            refine z_ri dX9_tableFault_43 rfl ?_
            exact ⟨by rw [e5 (by omega)], rfl⟩
    · exact absurd h11 (fun z => nomatch z)
/-! pads -/
def sPd (S : sS) (o b : sRow) : Nat := if o = none ∨ b = none then 1 else if ¬ (tbP (sSz o) ∧ sSz b = sSz o) then 5 else if UB (sSz o) (sGet o) (sPc S) ∧ ∀ k, k < sSz b → inN (sGet b k) (sBw S 0) then 0 else 3
set_option maxRecDepth 20000 in
theorem tX9_padsFault {E : zE} {d : Nat} {σ : zM} {S : sS} {r b : Nat} (hW : WF S) (hX : RX S σ) (hr : r < 6) (hb : b < 6) : Ret E mX9_padsFault (d + 2) [zr E 0, .int (nI r), .int (nI b)] σ (qI fun x τ => x = nI (sPd S (sR S r) (sR S b)) ∧ τ = σ) := by
  have h8 := hW.2.1.1
  have hk := kd_r hb
  have hk1 := kd_r1 hb
  have hkr := kd_r hr
  have hSb : Sh σ (24 + 2 * b) 40 (sR S b) := hX.1 b hb
  have hSr : Sh σ (24 + 2 * r) 40 (sR S r) := hX.1 r hr
  refine Ret.of [some (zr E 0), some (.int (nI r)), some (.int (nI b)), none, none] (by decide +kernel) (Nat.le_of_ble_eq_true rfl) rfl ?_
  cases hob : sR S b with
  | none =>
    rw [hob] at hSb
    have e : sPd S (sR S r) none = 1 := if_pos (Or.inr rfl)
    refine z_aload_n 1 dX9_padsFault_0 rfl rfl ?_
    refine gX9_11 4 rfl dX9_padsFault_1 rfl ?_
    refine z_iload_n 5 dX9_padsFault_4 rfl rfl ?_
    refine z_aald1 6 dX9_padsFault_5 rfl (by omega) ?_
    refine z_cVI0 9 (tX7_isM hk hk1 hSb) kX7_isMissing dX9_padsFault_6 rfl lX9_107 (by first | assumption | rfl) (Nat.le_of_ble_eq_true rfl) ?_
    rintro _ _ ⟨e1, e2⟩
    replace e1 := e1.symm
    replace e2 := e2.symm
    subst e1
    subst e2
    refine z_ifb_eq 14 12 dX9_padsFault_9 (by decide) rfl (fun h9 => ?_) (fun h9 => ?_)
    · exact absurd rfl h9
    · refine z_iconst 13 (v := nI 1) dX9_padsFault_12 rfl rfl ?_
      refine z_ri dX9_padsFault_13 rfl ?_
      exact ⟨by rw [e], rfl⟩
  | some p =>
    rw [hob] at hSb
    have hsb : gi σ (24 + 2 * b) 1 = nI p.1 := hSb.2.1
    have hpb : p.1 ≤ 40 := hSb.1
    cases hor : sR S r with
    | none =>
      have e : sPd S none (some p) = 1 := if_pos (Or.inl rfl)
      refine z_aload_n 1 dX9_padsFault_0 rfl rfl ?_
      refine gX9_11 4 rfl dX9_padsFault_1 rfl ?_
      refine z_iload_n 5 dX9_padsFault_4 rfl rfl ?_
      refine z_aald1 6 dX9_padsFault_5 rfl (by omega) ?_
      refine z_cVI0 9 (tX7_isM hk hk1 hSb) kX7_isMissing dX9_padsFault_6 rfl lX9_107 (by first | assumption | rfl) (Nat.le_of_ble_eq_true rfl) ?_
      rintro _ _ ⟨e1, e2⟩
      replace e1 := e1.symm
      replace e2 := e2.symm
      subst e1
      subst e2
      refine z_ifb_eq 14 12 dX9_padsFault_9 (by decide) rfl (fun h9 => ?_) (fun h9 => ?_)
      · refine z_aload_n 15 dX9_padsFault_14 rfl rfl ?_
        refine z_iload_n 16 dX9_padsFault_15 rfl rfl ?_
        refine z_cVI1 19 (tX9_tableFault hW hX hr) kX9_tableFault dX9_padsFault_16 rfl lX9_233 (by first | assumption | rfl) (Nat.le_of_ble_eq_true rfl) ?_
        rintro _ _ ⟨e1, e2⟩
        replace e1 := e1.symm
        replace e2 := e2.symm
        subst e1
        subst e2
        rw [hor, show sTf S none = 1 from rfl]
        refine zs_istore_n_3_5 20 rfl dX9_padsFault_19 rfl rfl ?_
        refine z_iload_n 21 dX9_padsFault_20 rfl rfl ?_
        refine z_iconst 22 (v := nI 1) dX9_padsFault_21 rfl rfl ?_
        refine z_icmp_eq 30 25 dX9_padsFault_22 (by decide) rfl (fun h22 => ?_) (fun h22 => ?_)
        · (try rw [nI_eq (by omega) (by omega)] at h22)
          refine z_iload_n 31 dX9_padsFault_30 rfl rfl ?_
          refine z_ri dX9_padsFault_31 rfl ?_
          exact ⟨by rw [e], rfl⟩
        · (try rw [nI_eq (by omega) (by omega)] at h22)
          exact absurd rfl h22
      · exact absurd h9 (fun z => nomatch z)
    | some q =>
      rw [hor] at hSr
      have hsr : gi σ (24 + 2 * r) 1 = nI q.1 := hSr.2.1
      have hqr : q.1 ≤ 40 := hSr.1
      have ed : sPd S (some q) (some p) = if ¬ (tbP q.1 ∧ p.1 = q.1) then 5 else if UB q.1 q.2 (sPc S) ∧ ∀ k, k < p.1 → inN (p.2 k) (sBw S 0) then 0 else 3 := if_neg (fun z => z.elim (fun y => nomatch y) (fun y => nomatch y))
      by_cases hT : tbP q.1
      · have ht2 : sTf S (some q) = if UB q.1 q.2 (sPc S) then 0 else 3 := if_neg (fun z => z hT)
        have ht3 : sTf S (some q) = 0 ∨ sTf S (some q) = 3 := by
          rw [ht2]
          split
          · exact Or.inl rfl
          · exact Or.inr rfl
        by_cases hE : p.1 = q.1
        · rw [if_neg (fun z => z ⟨hT, hE⟩)] at ed
          have loop : ∀ i, i ≤ p.1 → (∀ k, k < i → inN (p.2 k) (sBw S 0)) → At E mX9_padsFault (d + 2) (qI fun x τ => x = nI (sPd S (some q) (some p)) ∧ τ = σ) 58 [some (zr E 0), some (.int (nI r)), some (.int (nI b)), some (.int (nI (sTf S (some q)))), some (.int (nI i))] [] σ := by
            refine z_up (fun i hi ih hall => ?_)
            by_cases hie : i = p.1
            · rw [hie] at hall
              have e : sTf S (some q) = sPd S (some q) (some p) := by
                rw [ed, ht2]
                by_cases hU : UB q.1 q.2 (sPc S)
                · rw [if_pos hU, if_pos ⟨hU, hall⟩]
                · rw [if_neg hU, if_neg (fun z => hU z.1)]
              refine z_iload 60 dX9_padsFault_58 rfl rfl ?_
              refine z_aload_n 61 dX9_padsFault_60 rfl rfl ?_
              refine gX9_11 64 rfl dX9_padsFault_61 rfl ?_
              refine z_iload_n 65 dX9_padsFault_64 rfl rfl ?_
              refine z_aald1 66 dX9_padsFault_65 rfl (by omega) ?_
              refine gX9_128 69 rfl dX9_padsFault_66 rfl (by first | assumption | rfl) ?_
              rw [hsb]
              refine z_icmp_ge 98 72 dX9_padsFault_69 (by decide) rfl (fun h69 => ?_) (fun h69 => ?_)
              · (try rw [nI_leI (by omega) (by omega)] at h69)
                refine z_iload_n 99 dX9_padsFault_98 rfl rfl ?_
                refine z_ri dX9_padsFault_99 rfl ?_
                exact ⟨by rw [e], rfl⟩
              · (try rw [nI_leI (by omega) (by omega)] at h69)
                omega
            · refine z_iload 60 dX9_padsFault_58 rfl rfl ?_
              refine z_aload_n 61 dX9_padsFault_60 rfl rfl ?_
              refine gX9_11 64 rfl dX9_padsFault_61 rfl ?_
              refine z_iload_n 65 dX9_padsFault_64 rfl rfl ?_
              refine z_aald1 66 dX9_padsFault_65 rfl (by omega) ?_
              refine gX9_128 69 rfl dX9_padsFault_66 rfl (by first | assumption | rfl) ?_
              rw [hsb]
              refine z_icmp_ge 98 72 dX9_padsFault_69 (by decide) rfl (fun h69 => ?_) (fun h69 => ?_)
              · (try rw [nI_leI (by omega) (by omega)] at h69)
                omega
              · (try rw [nI_leI (by omega) (by omega)] at h69)
                refine z_aload_n 73 dX9_padsFault_72 rfl rfl ?_
                refine z_aload_n 74 dX9_padsFault_73 rfl rfl ?_
                refine gX9_11 77 rfl dX9_padsFault_74 rfl ?_
                refine z_iload_n 78 dX9_padsFault_77 rfl rfl ?_
                refine z_aald1 79 dX9_padsFault_78 rfl (by omega) ?_
                refine z_iload 81 dX9_padsFault_79 rfl rfl ?_
                refine z_cVI1 84 (tX7_get hk hk1 hsb (by omega) (show i < p.1 by omega)) kX7_get dX9_padsFault_81 rfl lX9_98 (by first | assumption | rfl) (Nat.le_of_ble_eq_true rfl) ?_
                rintro _ _ ⟨e1, e2⟩
                replace e1 := e1.symm
                replace e2 := e2.symm
                subst e1
                subst e2
                rw [hSb.2.2 i (by omega)]
                refine z_cVI1 87 (tX9_isWord (by assumption) (by assumption)) kX9_isWord dX9_padsFault_84 rfl lX9_165 (by first | assumption | rfl) (Nat.le_of_ble_eq_true rfl) ?_
                rintro _ _ ⟨e1, e2⟩
                replace e1 := e1.symm
                replace e2 := e2.symm
                subst e1
                subst e2
                refine z_ifb_ne 92 90 dX9_padsFault_87 (by decide) rfl (fun h87 => ?_) (fun h87 => ?_)
                · refine zs_iinc_4_5_1 95 rfl dX9_padsFault_92 rfl rfl ?_
                  rw [nI_add]
                  refine z_goto 58 dX9_padsFault_95 rfl ?_
                  exact ih (i + 1) (by omega) (by omega) (fun k hk => by
                    by_cases hki : k = i
                    · rw [hki]; exact h87
                    · exact hall k (by omega))
                · have e : sPd S (some q) (some p) = 3 := by (rw [ed, if_neg (fun z => h87 (z.2 i (by omega)))])
                  refine z_iconst 91 (v := nI 3) dX9_padsFault_90 rfl rfl ?_
                  refine z_ri dX9_padsFault_91 rfl ?_
                  exact ⟨by rw [e], rfl⟩
          refine z_aload_n 1 dX9_padsFault_0 rfl rfl ?_
          refine gX9_11 4 rfl dX9_padsFault_1 rfl ?_
          refine z_iload_n 5 dX9_padsFault_4 rfl rfl ?_
          refine z_aald1 6 dX9_padsFault_5 rfl (by omega) ?_
          refine z_cVI0 9 (tX7_isM hk hk1 hSb) kX7_isMissing dX9_padsFault_6 rfl lX9_107 (by first | assumption | rfl) (Nat.le_of_ble_eq_true rfl) ?_
          rintro _ _ ⟨e1, e2⟩
          replace e1 := e1.symm
          replace e2 := e2.symm
          subst e1
          subst e2
          refine z_ifb_eq 14 12 dX9_padsFault_9 (by decide) rfl (fun h9 => ?_) (fun h9 => ?_)
          · refine z_aload_n 15 dX9_padsFault_14 rfl rfl ?_
            refine z_iload_n 16 dX9_padsFault_15 rfl rfl ?_
            refine z_cVI1 19 (tX9_tableFault hW hX hr) kX9_tableFault dX9_padsFault_16 rfl lX9_233 (by first | assumption | rfl) (Nat.le_of_ble_eq_true rfl) ?_
            rintro _ _ ⟨e1, e2⟩
            replace e1 := e1.symm
            replace e2 := e2.symm
            subst e1
            subst e2
            rw [hor]
            refine zs_istore_n_3_5 20 rfl dX9_padsFault_19 rfl rfl ?_
            refine z_iload_n 21 dX9_padsFault_20 rfl rfl ?_
            refine z_iconst 22 (v := nI 1) dX9_padsFault_21 rfl rfl ?_
            refine z_icmp_eq 30 25 dX9_padsFault_22 (by decide) rfl (fun h22 => ?_) (fun h22 => ?_)
            · (try rw [nI_eq (by omega) (by omega)] at h22)
              omega
            · (try rw [nI_eq (by omega) (by omega)] at h22)
              refine z_iload_n 26 dX9_padsFault_25 rfl rfl ?_
              refine z_iconst 27 (v := nI 5) dX9_padsFault_26 rfl rfl ?_
              refine z_icmp_ne 32 30 dX9_padsFault_27 (by decide) rfl (fun h27 => ?_) (fun h27 => ?_)
              · (try rw [nI_eq (by omega) (by omega)] at h27)
                refine z_aload_n 33 dX9_padsFault_32 rfl rfl ?_
                refine gX9_11 36 rfl dX9_padsFault_33 rfl ?_
                refine z_iload_n 37 dX9_padsFault_36 rfl rfl ?_
                refine z_aald1 38 dX9_padsFault_37 rfl (by omega) ?_
                refine gX9_128 41 rfl dX9_padsFault_38 rfl (by first | assumption | rfl) ?_
                rw [hsb]
                refine z_aload_n 42 dX9_padsFault_41 rfl rfl ?_
                refine gX9_11 45 rfl dX9_padsFault_42 rfl ?_
                refine z_iload_n 46 dX9_padsFault_45 rfl rfl ?_
                refine z_aald1 47 dX9_padsFault_46 rfl (by omega) ?_
                refine gX9_128 50 rfl dX9_padsFault_47 rfl (by first | assumption | rfl) ?_
                rw [hsr]
                refine z_icmp_eq 55 53 dX9_padsFault_50 (by decide) rfl (fun h50 => ?_) (fun h50 => ?_)
                · (try rw [nI_eq (by omega) (by omega)] at h50)
                  refine z_iconst 56 (v := nI 0) dX9_padsFault_55 rfl rfl ?_
                  refine zs_istore_4_5 58 rfl dX9_padsFault_56 rfl rfl ?_
                  exact loop 0 (Nat.zero_le _) (fun k hk => absurd hk (Nat.not_lt_zero k))
                · (try rw [nI_eq (by omega) (by omega)] at h50)
                  omega
              · (try rw [nI_eq (by omega) (by omega)] at h27)
                omega
          · exact absurd h9 (fun z => nomatch z)
        · rw [if_pos (fun z => hE z.2)] at ed
          refine z_aload_n 1 dX9_padsFault_0 rfl rfl ?_
          refine gX9_11 4 rfl dX9_padsFault_1 rfl ?_
          refine z_iload_n 5 dX9_padsFault_4 rfl rfl ?_
          refine z_aald1 6 dX9_padsFault_5 rfl (by omega) ?_
          refine z_cVI0 9 (tX7_isM hk hk1 hSb) kX7_isMissing dX9_padsFault_6 rfl lX9_107 (by first | assumption | rfl) (Nat.le_of_ble_eq_true rfl) ?_
          rintro _ _ ⟨e1, e2⟩
          replace e1 := e1.symm
          replace e2 := e2.symm
          subst e1
          subst e2
          refine z_ifb_eq 14 12 dX9_padsFault_9 (by decide) rfl (fun h9 => ?_) (fun h9 => ?_)
          · refine z_aload_n 15 dX9_padsFault_14 rfl rfl ?_
            refine z_iload_n 16 dX9_padsFault_15 rfl rfl ?_
            refine z_cVI1 19 (tX9_tableFault hW hX hr) kX9_tableFault dX9_padsFault_16 rfl lX9_233 (by first | assumption | rfl) (Nat.le_of_ble_eq_true rfl) ?_
            rintro _ _ ⟨e1, e2⟩
            replace e1 := e1.symm
            replace e2 := e2.symm
            subst e1
            subst e2
            rw [hor]
            refine zs_istore_n_3_5 20 rfl dX9_padsFault_19 rfl rfl ?_
            refine z_iload_n 21 dX9_padsFault_20 rfl rfl ?_
            refine z_iconst 22 (v := nI 1) dX9_padsFault_21 rfl rfl ?_
            refine z_icmp_eq 30 25 dX9_padsFault_22 (by decide) rfl (fun h22 => ?_) (fun h22 => ?_)
            · (try rw [nI_eq (by omega) (by omega)] at h22)
              omega
            · (try rw [nI_eq (by omega) (by omega)] at h22)
              refine z_iload_n 26 dX9_padsFault_25 rfl rfl ?_
              refine z_iconst 27 (v := nI 5) dX9_padsFault_26 rfl rfl ?_
              refine z_icmp_ne 32 30 dX9_padsFault_27 (by decide) rfl (fun h27 => ?_) (fun h27 => ?_)
              · (try rw [nI_eq (by omega) (by omega)] at h27)
                refine z_aload_n 33 dX9_padsFault_32 rfl rfl ?_
                refine gX9_11 36 rfl dX9_padsFault_33 rfl ?_
                refine z_iload_n 37 dX9_padsFault_36 rfl rfl ?_
                refine z_aald1 38 dX9_padsFault_37 rfl (by omega) ?_
                refine gX9_128 41 rfl dX9_padsFault_38 rfl (by first | assumption | rfl) ?_
                rw [hsb]
                refine z_aload_n 42 dX9_padsFault_41 rfl rfl ?_
                refine gX9_11 45 rfl dX9_padsFault_42 rfl ?_
                refine z_iload_n 46 dX9_padsFault_45 rfl rfl ?_
                refine z_aald1 47 dX9_padsFault_46 rfl (by omega) ?_
                refine gX9_128 50 rfl dX9_padsFault_47 rfl (by first | assumption | rfl) ?_
                rw [hsr]
                refine z_icmp_eq 55 53 dX9_padsFault_50 (by decide) rfl (fun h50 => ?_) (fun h50 => ?_)
                · (try rw [nI_eq (by omega) (by omega)] at h50)
                  omega
                · (try rw [nI_eq (by omega) (by omega)] at h50)
                  refine z_iconst 54 (v := nI 5) dX9_padsFault_53 rfl rfl ?_
                  refine z_ri dX9_padsFault_54 rfl ?_
                  exact ⟨by rw [ed], rfl⟩
              · (try rw [nI_eq (by omega) (by omega)] at h27)
                omega
          · exact absurd h9 (fun z => nomatch z)
      · rw [if_pos (fun z => hT z.1)] at ed
        have ht2 : sTf S (some q) = 5 := if_pos hT
        refine z_aload_n 1 dX9_padsFault_0 rfl rfl ?_
        refine gX9_11 4 rfl dX9_padsFault_1 rfl ?_
        refine z_iload_n 5 dX9_padsFault_4 rfl rfl ?_
        refine z_aald1 6 dX9_padsFault_5 rfl (by omega) ?_
        refine z_cVI0 9 (tX7_isM hk hk1 hSb) kX7_isMissing dX9_padsFault_6 rfl lX9_107 (by first | assumption | rfl) (Nat.le_of_ble_eq_true rfl) ?_
        rintro _ _ ⟨e1, e2⟩
        replace e1 := e1.symm
        replace e2 := e2.symm
        subst e1
        subst e2
        refine z_ifb_eq 14 12 dX9_padsFault_9 (by decide) rfl (fun h9 => ?_) (fun h9 => ?_)
        · refine z_aload_n 15 dX9_padsFault_14 rfl rfl ?_
          refine z_iload_n 16 dX9_padsFault_15 rfl rfl ?_
          refine z_cVI1 19 (tX9_tableFault hW hX hr) kX9_tableFault dX9_padsFault_16 rfl lX9_233 (by first | assumption | rfl) (Nat.le_of_ble_eq_true rfl) ?_
          rintro _ _ ⟨e1, e2⟩
          replace e1 := e1.symm
          replace e2 := e2.symm
          subst e1
          subst e2
          rw [hor, ht2]
          refine zs_istore_n_3_5 20 rfl dX9_padsFault_19 rfl rfl ?_
          refine z_iload_n 21 dX9_padsFault_20 rfl rfl ?_
          refine z_iconst 22 (v := nI 1) dX9_padsFault_21 rfl rfl ?_
          refine z_icmp_eq 30 25 dX9_padsFault_22 (by decide) rfl (fun h22 => ?_) (fun h22 => ?_)
          · (try rw [nI_eq (by omega) (by omega)] at h22)
            omega
          · (try rw [nI_eq (by omega) (by omega)] at h22)
            refine z_iload_n 26 dX9_padsFault_25 rfl rfl ?_
            refine z_iconst 27 (v := nI 5) dX9_padsFault_26 rfl rfl ?_
            refine z_icmp_ne 32 30 dX9_padsFault_27 (by decide) rfl (fun h27 => ?_) (fun h27 => ?_)
            · (try rw [nI_eq (by omega) (by omega)] at h27)
              omega
            · (try rw [nI_eq (by omega) (by omega)] at h27)
              refine z_iload_n 31 dX9_padsFault_30 rfl rfl ?_
              refine z_ri dX9_padsFault_31 rfl ?_
              exact ⟨by rw [ed], rfl⟩
        · exact absurd h9 (fun z => nomatch z)
theorem sPd_lt (S : sS) (o b : sRow) : sPd S o b < 6 := by
  unfold sPd
  split
  · decide
  · split
    · decide
    · split <;> decide
theorem sPd0 {S : sS} {o b : sRow} (h : sPd S o b = 0) : ∃ q p, o = some q ∧ b = some p ∧ p.1 = q.1 ∧ sTf S o = 0 ∧ ∀ k, k < p.1 → inN (p.2 k) (sBw S 0) := by
  unfold sPd at h
  by_cases h1 : o = none ∨ b = none
  · rw [if_pos h1] at h
    exact absurd h (by decide)
  rw [if_neg h1] at h
  cases o with
  | none => exact absurd (Or.inl rfl) h1
  | some q =>
    cases b with
    | none => exact absurd (Or.inr rfl) h1
    | some p =>
      by_cases h2 : ¬ (tbP (sSz (some q)) ∧ sSz (some p) = sSz (some q))
      · rw [if_pos h2] at h
        exact absurd h (by decide)
      rw [if_neg h2] at h
      have h2 := Classical.not_not.mp h2
      by_cases h3 : UB (sSz (some q)) (sGet (some q)) (sPc S) ∧ ∀ k, k < sSz (some p) → inN (sGet (some p) k) (sBw S 0)
      · refine ⟨q, p, rfl, rfl, h2.2, ?_, h3.2⟩
        show (if ¬ tbP q.1 then 5 else if UB q.1 q.2 (sPc S) then 0 else 3) = 0
        rw [if_neg (fun z => z h2.1), if_pos (show UB q.1 q.2 (sPc S) from h3.1)]
      · rw [if_neg h3] at h
        exact absurd h (by decide)
/-! of the reference -/
/-- a table in cells -/
def mTb (σ : zM) (n : Nat) (t : Nat → Nat) : Prop := gi σ 102 22 = nI n ∧ ∀ i, i < n → gi σ 116 i = nI (t i)
theorem mTb.fr {P : Nat → Nat → Prop} {σ τ : zM} {n : Nat} {t : Nat → Nat} (h : mTb σ n t) (hF : Fr P σ τ) (h1 : ¬ P 102 22) (h2 : ∀ i, ¬ P 116 i) : mTb τ n t := ⟨(hF.gi h1).trans h.1, fun i hi => (hF.gi (h2 i)).trans (h.2 i hi)⟩
abbrev fT (a j : Nat) : Prop := a = 102 ∧ j = 22 ∨ a = 116
set_option maxRecDepth 20000 in
theorem tX10_askedSeats {E : zE} {d : Nat} {σ : zM} {S : sS} {r : Nat} {q : Nat × (Nat → Int32)} (hW : WF S) (hX : RM S σ) (hr : r < 6) (ho : sR S r = some q) (h8 : q.1 ≤ 8) : Ret E mX10_askedSeats (d + 2) [zr E 102, .int (nI r)] σ (qI fun x τ => (UB q.1 q.2 (sPc S) ∧ x = nI 0 ∧ Fr fT σ τ ∧ RM S τ ∧ mTb τ q.1 (gOf (sR S r))) ∨ (¬ UB q.1 q.2 (sPc S) ∧ x = -3 ∧ τ = mMt σ 3)) := by
  have hS : mSh σ 104 105 r 40 (some q) := by
    rw [← ho]
    exact hX.1 r hr
  obtain ⟨c1, c2, c3⟩ := hS
  refine Ret.of [some (zr E 102), some (.int (nI r)), none, none, none] (by decide +kernel) (Nat.le_of_ble_eq_true rfl) rfl ?_
  have fill : UB q.1 q.2 (sPc S) → ∀ i, i ≤ q.1 → ∀ y3 y4 τ, Fr fT σ τ → RM S τ → gi τ 102 22 = nI q.1 → (∀ k, k < i → gi τ 116 k = nI (gOf (sR S r) k)) → At E mX10_askedSeats (d + 2) (qI fun x τ => (UB q.1 q.2 (sPc S) ∧ x = nI 0 ∧ Fr fT σ τ ∧ RM S τ ∧ mTb τ q.1 (gOf (sR S r))) ∨ (¬ UB q.1 q.2 (sPc S) ∧ x = -3 ∧ τ = mMt σ 3)) 92 [some (zr E 102), some (.int (nI r)), some (.int (nI i)), y3, y4] [] τ := by
    intro hU
    refine z_up (fun i hi ih y3 y4 τ hF hR hn hv => ?_)
    have c3' : ∀ k, k < q.1 → gi τ 105 (40 * r + k) = nI (gOf (sR S r) k) := fun k hk => by
      have h1 := hR.1 r hr
      rw [show S.1 r = sR S r from rfl, ho] at h1
      rw [h1.2.2 k hk, (UB_pts hU k hk).1]
      show nI (zx (q.2 k)) = nI (zx (sGet (sR S r) k))
      rw [ho]
      rfl
    by_cases hie : i = q.1
    · rw [hie] at hv
      refine z_iload_n 93 dX10_askedSeats_92 rfl rfl ?_
      refine z_aload_n 94 dX10_askedSeats_93 rfl rfl ?_
      refine gX10_227 97 rfl dX10_askedSeats_94 rfl ?_
      rw [hn]
      refine z_icmp_ge 118 100 dX10_askedSeats_97 (by decide) rfl (fun h97 => ?_) (fun h97 => ?_)
      · (try rw [nI_leI (by omega) (by omega)] at h97)
        refine z_iconst 119 (v := nI 0) dX10_askedSeats_118 rfl rfl ?_
        refine z_ri dX10_askedSeats_119 rfl ?_
        exact Or.inl ⟨hU, rfl, hF, hR, hn, hv⟩
      · (try rw [nI_leI (by omega) (by omega)] at h97)
        omega
    · have hf : Fr (fun a j => a = 116) τ (si τ 116 i (nI (gOf (sR S r) i))) := Fr.rf.si _ rfl
      refine z_iload_n 93 dX10_askedSeats_92 rfl rfl ?_
      refine z_aload_n 94 dX10_askedSeats_93 rfl rfl ?_
      refine gX10_227 97 rfl dX10_askedSeats_94 rfl ?_
      rw [hn]
      refine z_icmp_ge 118 100 dX10_askedSeats_97 (by decide) rfl (fun h97 => ?_) (fun h97 => ?_)
      · (try rw [nI_leI (by omega) (by omega)] at h97)
        omega
      · (try rw [nI_leI (by omega) (by omega)] at h97)
        refine z_aload_n 101 dX10_askedSeats_100 rfl rfl ?_
        refine gX10_53 104 rfl dX10_askedSeats_101 rfl ?_
        refine z_iload_n 105 dX10_askedSeats_104 rfl rfl ?_
        refine z_aload_n 106 dX10_askedSeats_105 rfl rfl ?_
        refine z_iload_n 107 dX10_askedSeats_106 rfl rfl ?_
        refine z_iload_n 108 dX10_askedSeats_107 rfl rfl ?_
        refine z_cVI2 111 (tX10_rowAt (by omega) (by omega)) kX10_rowAt dX10_askedSeats_108 rfl lX10_113 (by first | assumption | rfl) (Nat.le_of_ble_eq_true rfl) ?_
        rintro _ _ ⟨e1, e2⟩
        replace e1 := e1.symm
        replace e2 := e2.symm
        subst e1
        subst e2
        rw [c3' i (by omega)]
        refine z_iastn 112 dX10_askedSeats_111 rfl (by first | assumption | rfl) (by omega) ?_
        refine zs_iinc_2_5_1 115 rfl dX10_askedSeats_112 rfl rfl ?_
        rw [nI_add]
        refine z_goto 92 dX10_askedSeats_115 rfl ?_
        exact ih (i + 1) (by omega) (by omega) _ _ _ (hF.tr hf (fun _ _ h => h) (fun _ _ h => Or.inr h)) (hR.scr hW (hf.mono (by unfold mS; intros; omega))) ((gi_s2 _ _ (by omega)).trans hn) (fun k hk => by
          rw [gi_si]
          by_cases hki : k = i
          · rw [if_pos ⟨rfl, hki⟩, hki]
          · rw [if_neg (fun z => hki z.2)]; exact hv k (by omega))
  have outer : ∀ i, i ≤ q.1 → UB i q.2 (sPc S) → ∀ y3 y4, At E mX10_askedSeats (d + 2) (qI fun x τ => (UB q.1 q.2 (sPc S) ∧ x = nI 0 ∧ Fr fT σ τ ∧ RM S τ ∧ mTb τ q.1 (gOf (sR S r))) ∨ (¬ UB q.1 q.2 (sPc S) ∧ x = -3 ∧ τ = mMt σ 3)) 2 [some (zr E 102), some (.int (nI r)), some (.int (nI i)), y3, y4] [] σ := by
    refine z_up (fun i hi oh hU y3 y4 => ?_)
    by_cases hie : i = q.1
    · rw [hie] at hU
      have hf : Fr (fun a j => a = 102 ∧ j = 22) σ (si σ 102 22 (nI q.1)) := Fr.rf.si _ ⟨rfl, rfl⟩
      refine z_iload_n 3 dX10_askedSeats_2 rfl rfl ?_
      refine z_aload_n 4 dX10_askedSeats_3 rfl rfl ?_
      refine gX10_17 7 rfl dX10_askedSeats_4 rfl ?_
      refine z_iload_n 8 dX10_askedSeats_7 rfl rfl ?_
      refine z_ialdn 9 dX10_askedSeats_8 rfl (by first | assumption | rfl) (by omega) ?_
      rw [c2]
      refine z_icmp_ge 80 12 dX10_askedSeats_9 (by decide) rfl (fun h9 => ?_) (fun h9 => ?_)
      · (try rw [nI_leI (by omega) (by omega)] at h9)
        refine z_aload_n 81 dX10_askedSeats_80 rfl rfl ?_
        refine z_aload_n 82 dX10_askedSeats_81 rfl rfl ?_
        refine gX10_17 85 rfl dX10_askedSeats_82 rfl ?_
        refine z_iload_n 86 dX10_askedSeats_85 rfl rfl ?_
        refine z_ialdn 87 dX10_askedSeats_86 rfl (by first | assumption | rfl) (by omega) ?_
        rw [c2]
        refine pX10_227 90 rfl dX10_askedSeats_87 rfl ?_
        refine z_iconst 91 (v := nI 0) dX10_askedSeats_90 rfl rfl ?_
        refine zs_istore_n_2_5 92 rfl dX10_askedSeats_91 rfl rfl ?_
        exact fill hU 0 (Nat.zero_le _) _ _ _ (hf.mono (fun _ _ h => Or.inl h)) (hX.scr hW (hf.mono (by unfold mS; intros; omega))) (gi_s1 _ _ _ _) (fun k hk => absurd hk (Nat.not_lt_zero k))
      · (try rw [nI_leI (by omega) (by omega)] at h9)
        omega
    · have hil : i < q.1 := by omega
      have inner : ∀ j, j ≤ i → At E mX10_askedSeats (d + 2) (qI fun x τ => (UB q.1 q.2 (sPc S) ∧ x = nI 0 ∧ Fr fT σ τ ∧ RM S τ ∧ mTb τ q.1 (gOf (sR S r))) ∨ (¬ UB q.1 q.2 (sPc S) ∧ x = -3 ∧ τ = mMt σ 3)) 26 [some (zr E 102), some (.int (nI r)), some (.int (nI i)), some (.int (bI (decide (inN (q.2 i) (sPc S) ∧ ∀ k, k < j → q.2 i ≠ q.2 k)))), some (.int (nI j))] [] σ := by
        refine z_up (fun j hj ih => ?_)
        by_cases hje : j = i
        · rw [hje]
          refine z_iload 28 dX10_askedSeats_26 rfl rfl ?_
          refine z_iload_n 29 dX10_askedSeats_28 rfl rfl ?_
          refine z_icmp_ge 64 32 dX10_askedSeats_29 (by decide) rfl (fun h29 => ?_) (fun h29 => ?_)
          · (try rw [nI_leI (by omega) (by omega)] at h29)
            refine z_iload_n 65 dX10_askedSeats_64 rfl rfl ?_
            refine z_ifb_ne 74 68 dX10_askedSeats_65 (by decide) rfl (fun h65 => ?_) (fun h65 => ?_)
            · refine zs_iinc_2_5_1 77 rfl dX10_askedSeats_74 rfl rfl ?_
              rw [nI_add]
              refine z_goto 2 dX10_askedSeats_77 rfl ?_
              exact oh (i + 1) (by omega) (by omega) (UB_step hU h65) _ _
            · have hno : ¬ UB q.1 q.2 (sPc S) := fun z => h65 (z i hil)
              refine z_aload_n 69 dX10_askedSeats_68 rfl rfl ?_
              refine z_iconst 70 (v := nI 3) dX10_askedSeats_69 rfl rfl ?_
              refine z_cVI1 73 (tX10_meets (by omega)) kX10_meets dX10_askedSeats_70 rfl lX10_99 (by first | assumption | rfl) (Nat.le_of_ble_eq_true rfl) ?_
              rintro _ _ ⟨e1, e2⟩
              replace e1 := e1.symm
              replace e2 := e2.symm
              subst e1
              subst e2
              refine z_ri dX10_askedSeats_73 rfl ?_
              exact Or.inr ⟨hno, rfl, rfl⟩
          · (try rw [nI_leI (by omega) (by omega)] at h29)
            omega
        · have hih := ih (j + 1) (by omega) (by omega)
          have no : ¬ (inN (q.2 i) (sPc S) ∧ ∀ k, k < j + 1 → q.2 i ≠ q.2 k) → At E mX10_askedSeats (d + 2) (qI fun x τ => (UB q.1 q.2 (sPc S) ∧ x = nI 0 ∧ Fr fT σ τ ∧ RM S τ ∧ mTb τ q.1 (gOf (sR S r))) ∨ (¬ UB q.1 q.2 (sPc S) ∧ x = -3 ∧ τ = mMt σ 3)) 56 [some (zr E 102), some (.int (nI r)), some (.int (nI i)), some (.int (bI (decide (inN (q.2 i) (sPc S) ∧ ∀ k, k < j → q.2 i ≠ q.2 k)))), some (.int (nI j))] [] σ := by
            intro hc
            rw [← bI_f hc] at hih
            refine z_iconst 57 (v := nI 0) dX10_askedSeats_56 rfl rfl ?_
            refine zs_istore_n_3_5 58 rfl dX10_askedSeats_57 rfl rfl ?_
            refine zs_iinc_4_5_1 61 rfl dX10_askedSeats_58 rfl rfl ?_
            rw [nI_add]
            refine z_goto 26 dX10_askedSeats_61 rfl ?_
            exact hih
          refine z_iload 28 dX10_askedSeats_26 rfl rfl ?_
          refine z_iload_n 29 dX10_askedSeats_28 rfl rfl ?_
          refine z_icmp_ge 64 32 dX10_askedSeats_29 (by decide) rfl (fun h29 => ?_) (fun h29 => ?_)
          · (try rw [nI_leI (by omega) (by omega)] at h29)
            omega
          · (try rw [nI_leI (by omega) (by omega)] at h29)
            refine z_iload_n 33 dX10_askedSeats_32 rfl rfl ?_
            refine z_ifb_eq 56 36 dX10_askedSeats_33 (by decide) rfl (fun h33 => ?_) (fun h33 => ?_)
            · first
                | exact no (fun z => h33 ⟨z.1, fun k hk => z.2 k (by omega)⟩)
                | exact no (fun z => z.2 j (by omega) h49)
            · refine z_aload_n 37 dX10_askedSeats_36 rfl rfl ?_
              refine z_iload_n 38 dX10_askedSeats_37 rfl rfl ?_
              refine z_iload_n 39 dX10_askedSeats_38 rfl rfl ?_
              refine z_cVI2 42 (tX10_rowAt (by omega) (by omega)) kX10_rowAt dX10_askedSeats_39 rfl lX10_113 (by first | assumption | rfl) (Nat.le_of_ble_eq_true rfl) ?_
              rintro _ _ ⟨e1, e2⟩
              replace e1 := e1.symm
              replace e2 := e2.symm
              subst e1
              subst e2
              rw [c3 i (by omega)]
              refine z_aload_n 43 dX10_askedSeats_42 rfl rfl ?_
              refine z_iload_n 44 dX10_askedSeats_43 rfl rfl ?_
              refine z_iload 46 dX10_askedSeats_44 rfl rfl ?_
              refine z_cVI2 49 (tX10_rowAt (by omega) (by omega)) kX10_rowAt dX10_askedSeats_46 rfl lX10_113 (by first | assumption | rfl) (Nat.le_of_ble_eq_true rfl) ?_
              rintro _ _ ⟨e1, e2⟩
              replace e1 := e1.symm
              replace e2 := e2.symm
              subst e1
              subst e2
              rw [c3 j (by omega)]
              refine z_icmp_eq 56 52 dX10_askedSeats_49 (by decide) rfl (fun h49 => ?_) (fun h49 => ?_)
              · first
                  | exact no (fun z => h33 ⟨z.1, fun k hk => z.2 k (by omega)⟩)
                  | exact no (fun z => z.2 j (by omega) h49)
              · rw [← bI_t (show inN (q.2 i) (sPc S) ∧ ∀ k, k < j + 1 → q.2 i ≠ q.2 k from ⟨h33.1, fun k hk => by
                  by_cases hkj : k = j
                  · rw [hkj]; exact h49
                  · exact h33.2 k (by omega)⟩)] at hih
                refine z_iconst 53 (v := nI 1) dX10_askedSeats_52 rfl rfl ?_
                refine z_goto 57 dX10_askedSeats_53 rfl ?_
                refine zs_istore_n_3_5 58 rfl dX10_askedSeats_57 rfl rfl ?_
                refine zs_iinc_4_5_1 61 rfl dX10_askedSeats_58 rfl rfl ?_
                rw [nI_add]
                refine z_goto 26 dX10_askedSeats_61 rfl ?_
                exact hih
      refine z_iload_n 3 dX10_askedSeats_2 rfl rfl ?_
      refine z_aload_n 4 dX10_askedSeats_3 rfl rfl ?_
      refine gX10_17 7 rfl dX10_askedSeats_4 rfl ?_
      refine z_iload_n 8 dX10_askedSeats_7 rfl rfl ?_
      refine z_ialdn 9 dX10_askedSeats_8 rfl (by first | assumption | rfl) (by omega) ?_
      rw [c2]
      refine z_icmp_ge 80 12 dX10_askedSeats_9 (by decide) rfl (fun h9 => ?_) (fun h9 => ?_)
      · (try rw [nI_leI (by omega) (by omega)] at h9)
        omega
      · (try rw [nI_leI (by omega) (by omega)] at h9)
        refine z_aload_n 13 dX10_askedSeats_12 rfl rfl ?_
        refine z_aload_n 14 dX10_askedSeats_13 rfl rfl ?_
        refine z_iload_n 15 dX10_askedSeats_14 rfl rfl ?_
        refine z_iload_n 16 dX10_askedSeats_15 rfl rfl ?_
        refine z_cVI2 19 (tX10_rowAt (by omega) (by omega)) kX10_rowAt dX10_askedSeats_16 rfl lX10_113 (by first | assumption | rfl) (Nat.le_of_ble_eq_true rfl) ?_
        rintro _ _ ⟨e1, e2⟩
        replace e1 := e1.symm
        replace e2 := e2.symm
        subst e1
        subst e2
        rw [c3 i (by omega)]
        refine z_cVI1 22 (tX10_isPlayer (by assumption) (by assumption)) kX10_isPlayer dX10_askedSeats_19 rfl lX10_162 (by first | assumption | rfl) (Nat.le_of_ble_eq_true rfl) ?_
        rintro _ _ ⟨e1, e2⟩
        replace e1 := e1.symm
        replace e2 := e2.symm
        subst e1
        subst e2
        rw [bI_c (q := inN (q.2 i) (sPc S) ∧ ∀ k, k < 0 → q.2 i ≠ q.2 k) ⟨fun z => ⟨z, fun k hk => absurd hk (Nat.not_lt_zero k)⟩, fun z => z.1⟩]
        refine zs_istore_n_3_5 23 rfl dX10_askedSeats_22 rfl rfl ?_
        refine z_iconst 24 (v := nI 0) dX10_askedSeats_23 rfl rfl ?_
        refine zs_istore_4_5 26 rfl dX10_askedSeats_24 rfl rfl ?_
        exact inner 0 (Nat.zero_le _)
  refine z_iconst 1 (v := nI 0) dX10_askedSeats_0 rfl rfl ?_
  refine zs_istore_n_2_5 2 rfl dX10_askedSeats_1 rfl rfl ?_
  exact outer 0 (Nat.zero_le _) (fun i hi => absurd hi (Nat.not_lt_zero i)) none none
set_option maxRecDepth 20000 in
theorem tX10_askedTable {E : zE} {d : Nat} {σ : zM} {S : sS} {r : Nat} (hW : WF S) (hX : RM S σ) (hr : r < 6) : Ret E mX10_askedTable (d + 3) [zr E 102, .int (nI r)] σ (qI fun x τ => (sTf S (sR S r) = 0 ∧ x = nI 0 ∧ Fr fT σ τ ∧ RM S τ ∧ mTb τ (sSz (sR S r)) (gOf (sR S r))) ∨ (¬ sTf S (sR S r) = 0 ∧ x = -3 ∧ τ = mMt σ (sTf S (sR S r)))) := by
  have hS : mSh σ 104 105 r 40 (sR S r) := hX.1 r hr
  refine Ret.of [some (zr E 102), some (.int (nI r))] (by decide +kernel) (Nat.le_of_ble_eq_true rfl) rfl ?_
  cases ho : sR S r with
  | none =>
    rw [ho] at hS
    have hs : gi σ 104 r = -9 := hS
    refine z_aload_n 1 dX10_askedTable_0 rfl rfl ?_
    refine gX10_17 4 rfl dX10_askedTable_1 rfl ?_
    refine z_iload_n 5 dX10_askedTable_4 rfl rfl ?_
    refine z_ialdn 6 dX10_askedTable_5 rfl (by first | assumption | rfl) (by omega) ?_
    rw [hs]
    refine z_if_ge 15 9 dX10_askedTable_6 (by decide) rfl (fun h6 => ?_) (fun h6 => ?_)
    · exact absurd h6 (by decide)
    · refine z_aload_n 10 dX10_askedTable_9 rfl rfl ?_
      refine z_iconst 11 (v := nI 1) dX10_askedTable_10 rfl rfl ?_
      refine z_cVI1 14 (tX10_meets (by omega)) kX10_meets dX10_askedTable_11 rfl lX10_99 (by first | assumption | rfl) (Nat.le_of_ble_eq_true rfl) ?_
      rintro _ _ ⟨e1, e2⟩
      replace e1 := e1.symm
      replace e2 := e2.symm
      subst e1
      subst e2
      refine z_ri dX10_askedTable_14 rfl ?_
      exact Or.inr ⟨(by decide : ¬ 1 = 0), rfl, rfl⟩
  | some q =>
    rw [ho] at hS
    obtain ⟨c1, c2, c3⟩ := hS
    have e5 : ¬ tbP q.1 → sTf S (some q) = 5 := fun h => if_pos h
    have ein : bI (decide (nI 2 ≤ nI q.1 ∧ nI q.1 ≤ nI 8)) = bI (decide (2 ≤ q.1 ∧ q.1 ≤ 8)) := bI_c (by rw [nI_leI (by omega) (by omega), nI_leI (by omega) (by omega)])
    by_cases hT : tbP q.1
    · have h8 := hT.2.1
      have h2 := hT.1
      have hm := hT.2.2
      have et : sTf S (some q) = if UB q.1 q.2 (sPc S) then 0 else 3 := if_neg (fun z => z hT)
      refine z_aload_n 1 dX10_askedTable_0 rfl rfl ?_
      refine gX10_17 4 rfl dX10_askedTable_1 rfl ?_
      refine z_iload_n 5 dX10_askedTable_4 rfl rfl ?_
      refine z_ialdn 6 dX10_askedTable_5 rfl (by first | assumption | rfl) (by omega) ?_
      rw [c2]
      refine z_if_ge 15 9 dX10_askedTable_6 (by decide) rfl (fun h6 => ?_) (fun h6 => ?_)
      · (try rw [nI_ge0 (by omega)] at h6)
        refine z_aload_n 16 dX10_askedTable_15 rfl rfl ?_
        refine gX10_17 19 rfl dX10_askedTable_16 rfl ?_
        refine z_iload_n 20 dX10_askedTable_19 rfl rfl ?_
        refine z_ialdn 21 dX10_askedTable_20 rfl (by first | assumption | rfl) (by omega) ?_
        refine z_iconst 22 (v := nI 2) dX10_askedTable_21 rfl rfl ?_
        refine z_bipush 24 (v := nI 8) dX10_askedTable_22 rfl rfl ?_
        rw [c2]
        refine z_cSI3 27 (tX10_in) kX10_in dX10_askedTable_24 rfl lX10_91 (Nat.le_of_ble_eq_true rfl) ?_
        rintro _ _ ⟨e1, e2⟩
        replace e1 := e1.symm
        replace e2 := e2.symm
        subst e1
        subst e2
        rw [ein]
        refine z_ifb_eq 42 30 dX10_askedTable_27 (by decide) rfl (fun h27 => ?_) (fun h27 => ?_)
        · exact absurd ⟨h2, h8⟩ h27
        · refine z_aload_n 31 dX10_askedTable_30 rfl rfl ?_
          refine gX10_17 34 rfl dX10_askedTable_31 rfl ?_
          refine z_iload_n 35 dX10_askedTable_34 rfl rfl ?_
          refine z_ialdn 36 dX10_askedTable_35 rfl (by first | assumption | rfl) (by omega) ?_
          rw [c2]
          refine z_iconst 37 (v := nI 2) dX10_askedTable_36 rfl rfl ?_
          refine z_irem 38 dX10_askedTable_37 rfl (by decide) ?_
          rw [pk_rem (by omega) (by decide) (by decide)]
          refine z_iconst 39 (v := nI 1) dX10_askedTable_38 rfl rfl ?_
          refine z_icmp_ne 48 42 dX10_askedTable_39 (by decide) rfl (fun h39 => ?_) (fun h39 => ?_)
          · (try rw [nI_eq (by omega) (by omega)] at h39)
            refine z_aload_n 49 dX10_askedTable_48 rfl rfl ?_
            refine z_iload_n 50 dX10_askedTable_49 rfl rfl ?_
            refine z_cVI1 53 (tX10_askedSeats hW hX hr ho h8) kX10_askedSeats dX10_askedTable_50 rfl lX10_224 (by first | assumption | rfl) (Nat.le_of_ble_eq_true rfl) ?_
            rintro x1 τ1 hx
            refine z_ri dX10_askedTable_53 rfl ?_
            rcases hx with ⟨hU, e1, hF, hR, hB⟩ | ⟨hU, e1, e2⟩
            · refine Or.inl ⟨by rw [et, if_pos hU], e1, hF, hR, ?_⟩
              rw [ho] at hB
              exact hB
            · refine Or.inr ⟨by rw [et, if_neg hU]; decide, e1, ?_⟩
              rw [e2, et, if_neg hU]
          · (try rw [nI_eq (by omega) (by omega)] at h39)
            omega
      · (try rw [nI_ge0 (by omega)] at h6)
        exact absurd trivial h6
    · refine z_aload_n 1 dX10_askedTable_0 rfl rfl ?_
      refine gX10_17 4 rfl dX10_askedTable_1 rfl ?_
      refine z_iload_n 5 dX10_askedTable_4 rfl rfl ?_
      refine z_ialdn 6 dX10_askedTable_5 rfl (by first | assumption | rfl) (by omega) ?_
      rw [c2]
      refine z_if_ge 15 9 dX10_askedTable_6 (by decide) rfl (fun h6 => ?_) (fun h6 => ?_)
      · (try rw [nI_ge0 (by omega)] at h6)
        refine z_aload_n 16 dX10_askedTable_15 rfl rfl ?_
        refine gX10_17 19 rfl dX10_askedTable_16 rfl ?_
        refine z_iload_n 20 dX10_askedTable_19 rfl rfl ?_
        refine z_ialdn 21 dX10_askedTable_20 rfl (by first | assumption | rfl) (by omega) ?_
        refine z_iconst 22 (v := nI 2) dX10_askedTable_21 rfl rfl ?_
        refine z_bipush 24 (v := nI 8) dX10_askedTable_22 rfl rfl ?_
        rw [c2]
        refine z_cSI3 27 (tX10_in) kX10_in dX10_askedTable_24 rfl lX10_91 (Nat.le_of_ble_eq_true rfl) ?_
        rintro _ _ ⟨e1, e2⟩
        replace e1 := e1.symm
        replace e2 := e2.symm
        subst e1
        subst e2
        rw [ein]
        refine z_ifb_eq 42 30 dX10_askedTable_27 (by decide) rfl (fun h27 => ?_) (fun h27 => ?_)
        · refine z_aload_n 43 dX10_askedTable_42 rfl rfl ?_
          refine z_iconst 44 (v := nI 5) dX10_askedTable_43 rfl rfl ?_
          refine z_cVI1 47 (tX10_meets (by omega)) kX10_meets dX10_askedTable_44 rfl lX10_99 (by first | assumption | rfl) (Nat.le_of_ble_eq_true rfl) ?_
          rintro _ _ ⟨e1, e2⟩
          replace e1 := e1.symm
          replace e2 := e2.symm
          subst e1
          subst e2
          refine z_ri dX10_askedTable_47 rfl ?_
          exact Or.inr ⟨by rw [e5 hT]; decide, rfl, by rw [e5 hT]⟩
        · refine z_aload_n 31 dX10_askedTable_30 rfl rfl ?_
          refine gX10_17 34 rfl dX10_askedTable_31 rfl ?_
          refine z_iload_n 35 dX10_askedTable_34 rfl rfl ?_
          refine z_ialdn 36 dX10_askedTable_35 rfl (by first | assumption | rfl) (by omega) ?_
          rw [c2]
          refine z_iconst 37 (v := nI 2) dX10_askedTable_36 rfl rfl ?_
          refine z_irem 38 dX10_askedTable_37 rfl (by decide) ?_
          rw [pk_rem (by omega) (by decide) (by decide)]
          refine z_iconst 39 (v := nI 1) dX10_askedTable_38 rfl rfl ?_
          refine z_icmp_ne 48 42 dX10_askedTable_39 (by decide) rfl (fun h39 => ?_) (fun h39 => ?_)
          · (try rw [nI_eq (by omega) (by omega)] at h39)
            exact absurd ⟨h27.1, h27.2, by omega⟩ hT
          · (try rw [nI_eq (by omega) (by omega)] at h39)
            refine z_aload_n 43 dX10_askedTable_42 rfl rfl ?_
            refine z_iconst 44 (v := nI 5) dX10_askedTable_43 rfl rfl ?_
            refine z_cVI1 47 (tX10_meets (by omega)) kX10_meets dX10_askedTable_44 rfl lX10_99 (by first | assumption | rfl) (Nat.le_of_ble_eq_true rfl) ?_
            rintro _ _ ⟨e1, e2⟩
            replace e1 := e1.symm
            replace e2 := e2.symm
            subst e1
            subst e2
            refine z_ri dX10_askedTable_47 rfl ?_
            exact Or.inr ⟨by rw [e5 hT]; decide, rfl, by rw [e5 hT]⟩
      · (try rw [nI_ge0 (by omega)] at h6)
        exact absurd trivial h6
