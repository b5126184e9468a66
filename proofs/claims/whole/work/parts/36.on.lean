/-! on -/
def plD (v : Int32) : sPly := (zx v / 1000, zx v / 100 % 10, zx v / 10 % 10, zx v % 10)
abbrev pOK (S : sS) (v : Int32) : Prop := inN v 6000 ∧ zx v / 100 % 10 < 2 ∧ cnt S (zx v / 100 % 10) ∧ 1 ≤ zx v / 10 % 10 ∧ zx v / 10 % 10 ≤ 6 ∧ zx v % 10 < sBw S 0
def imF (S : sS) (o : sRow) : Nat := match o with
  | none => 1
  | some q => if 8 < q.1 then 5 else if ∀ i, i < q.1 → pOK S (q.2 i) then 0 else 3
theorem imF_lt (S : sS) (o : sRow) : imF S o < 6 := by
  cases o with
  | none => exact (by decide : (1 : Nat) < 6)
  | some q =>
    unfold imF
    dsimp only
    split
    · decide
    · split <;> decide
theorem imF0 {S : sS} {o : sRow} (h : imF S o = 0) : ∃ q, o = some q ∧ q.1 ≤ 8 ∧ ∀ i, i < q.1 → pOK S (q.2 i) := by
  cases o with
  | none => exact absurd h (by decide : ¬ (1 : Nat) = 0)
  | some q =>
    unfold imF at h
    dsimp only at h
    by_cases h8 : 8 < q.1
    · rw [if_pos h8] at h
      exact absurd h (by decide)
    · rw [if_neg h8] at h
      by_cases hq : ∀ i, i < q.1 → pOK S (q.2 i)
      · exact ⟨q, rfl, by omega, hq⟩
      · rw [if_neg hq] at h
        exact absurd h (by decide)
theorem tX9_boxC {E : zE} {d : Nat} {σ : zM} {S : sS} {l : Nat} (hW : WF S) (hX : RX S σ) (hl : l < 2 ^ 31) : Ret E mX9_boxCounts (d + 1) [zr E 0, .int (nI l)] σ (qI fun x τ => x = bI (decide (l < 2 ∧ cnt S l)) ∧ τ = σ) := by
  by_cases h2 : l < 2
  · refine (tX9_boxCounts hW hX h2).imp (fun v τ h => ?_)
    obtain ⟨x, h1, e, h3⟩ := h
    exact ⟨x, h1, e.trans (bI_c ⟨fun z => ⟨h2, z⟩, fun z => z.2⟩), h3⟩
  · have hn : ¬ inN (nI l) 2 := fun z => h2 ((inN_nI' hl).mp z)
    refine Ret.of [some (zr E 0), some (.int (nI l))] (by decide +kernel) (Nat.le_of_ble_eq_true rfl) rfl ?_
    refine z_iload_n 1 dX9_boxCounts_0 rfl rfl ?_
    refine z_cSI1 4 (tX9_isLand) kX9_isLand dX9_boxCounts_1 rfl lX9_143 (Nat.le_of_ble_eq_true rfl) ?_
    rintro _ _ ⟨e1, e2⟩
    replace e1 := e1.symm
    replace e2 := e2.symm
    subst e1
    subst e2
    refine z_ifb_eq 44 7 dX9_boxCounts_4 (by decide) rfl (fun h4 => ?_) (fun h4 => ?_)
    · refine z_iconst 45 (v := nI 0) dX9_boxCounts_44 rfl rfl ?_
      refine z_rz dX9_boxCounts_45 rfl (by first | exact Or.inl rfl | exact Or.inr rfl | exact bI_01 _ | assumption) ?_
      exact ⟨bI_f (fun z => h2 z.1), rfl⟩
    · exact absurd h4 hn
set_option maxRecDepth 20000 in
theorem tX9_imageFault {E : zE} {d : Nat} {σ : zM} {S : sS} {r : Nat} (hW : WF S) (hX : RX S σ) (hr : r < 6) : Ret E mX9_imageFault (d + 2) [zr E 0, zr E (24 + 2 * r)] σ (qI fun x τ => x = nI (imF S (sR S r)) ∧ τ = σ) := by
  have hb8 := bw_le hW (show 0 < 2 by omega)
  have hk := kd_r hr
  have hk1 := kd_r1 hr
  have hS : Sh σ (24 + 2 * r) 40 (sR S r) := hX.1 r hr
  refine Ret.of [some (zr E 0), some (zr E (24 + 2 * r)), none, none, none, none] (by decide +kernel) (Nat.le_of_ble_eq_true rfl) rfl ?_
  cases ho : sR S r with
  | none =>
    rw [ho] at hS
    refine z_aload_n 1 dX9_imageFault_0 rfl rfl ?_
    refine z_cVI0 4 (tX7_isM hk hk1 hS) kX7_isMissing dX9_imageFault_1 rfl lX9_107 (by first | assumption | rfl) (Nat.le_of_ble_eq_true rfl) ?_
    rintro _ _ ⟨e1, e2⟩
    replace e1 := e1.symm
    replace e2 := e2.symm
    subst e1
    subst e2
    refine z_ifb_eq 9 7 dX9_imageFault_4 (by decide) rfl (fun h4 => ?_) (fun h4 => ?_)
    · exact absurd rfl h4
    · refine z_iconst 8 (v := nI 1) dX9_imageFault_7 rfl rfl ?_
      refine z_ri dX9_imageFault_8 rfl ?_
      exact ⟨rfl, rfl⟩
  | some q =>
    rw [ho] at hS
    have q40 := hS.1
    have hs : gi σ (24 + 2 * r) 1 = nI q.1 := hS.2.1
    have e0 : imF S (some q) = if 8 < q.1 then 5 else if ∀ i, i < q.1 → pOK S (q.2 i) then 0 else 3 := rfl
    by_cases hq8 : 8 < q.1
    · rw [if_pos hq8] at e0
      refine z_aload_n 1 dX9_imageFault_0 rfl rfl ?_
      refine z_cVI0 4 (tX7_isM hk hk1 hS) kX7_isMissing dX9_imageFault_1 rfl lX9_107 (by first | assumption | rfl) (Nat.le_of_ble_eq_true rfl) ?_
      rintro _ _ ⟨e1, e2⟩
      replace e1 := e1.symm
      replace e2 := e2.symm
      subst e1
      subst e2
      refine z_ifb_eq 9 7 dX9_imageFault_4 (by decide) rfl (fun h4 => ?_) (fun h4 => ?_)
      · refine z_aload_n 10 dX9_imageFault_9 rfl rfl ?_
        refine gX9_128 13 rfl dX9_imageFault_10 rfl (by first | assumption | rfl) ?_
        refine z_bipush 15 (v := nI 8) dX9_imageFault_13 rfl rfl ?_
        rw [hs]
        refine z_icmp_le 20 18 dX9_imageFault_15 (by decide) rfl (fun h15 => ?_) (fun h15 => ?_)
        · (try rw [nI_leI (by omega) (by omega)] at h15)
          omega
        · (try rw [nI_leI (by omega) (by omega)] at h15)
          refine z_iconst 19 (v := nI 5) dX9_imageFault_18 rfl rfl ?_
          refine z_ri dX9_imageFault_19 rfl ?_
          rw [e0]
          exact ⟨rfl, rfl⟩
      · exact absurd h4 (Option.some_ne_none _)
    rw [if_neg hq8] at e0
    have loop : ∀ i, i ≤ q.1 → (∀ k, k < i → pOK S (q.2 k)) → ∀ y3 y4 y5, At E mX9_imageFault (d + 2) (qI fun x τ => x = nI (imF S (some q)) ∧ τ = σ) 22 [some (zr E 0), some (zr E (24 + 2 * r)), some (.int (nI i)), y3, y4, y5] [] σ := by
      refine z_up (fun i hi ih hO y3 y4 y5 => ?_)
      by_cases hie : i = q.1
      · subst hie
        rw [if_pos hO] at e0
        refine z_iload_n 23 dX9_imageFault_22 rfl rfl ?_
        refine z_aload_n 24 dX9_imageFault_23 rfl rfl ?_
        refine gX9_128 27 rfl dX9_imageFault_24 rfl (by first | assumption | rfl) ?_
        rw [hs]
        refine z_icmp_ge 117 30 dX9_imageFault_27 (by decide) rfl (fun h27 => ?_) (fun h27 => ?_)
        · (try rw [nI_leI (by omega) (by omega)] at h27)
          refine z_iconst 118 (v := nI 0) dX9_imageFault_117 rfl rfl ?_
          refine z_ri dX9_imageFault_118 rfl ?_
          rw [e0]
          exact ⟨rfl, rfl⟩
        · (try rw [nI_leI (by omega) (by omega)] at h27)
          omega
      · have hil : i < q.1 := by omega
        have hv : gi σ (24 + 2 * r + 1) i = q.2 i := hS.2.2 i hil
        obtain ⟨v, hvv⟩ : ∃ v, v = q.2 i := ⟨_, rfl⟩
        rw [← hvv] at hv
        have s101 : ¬ pOK S v → ∀ (y4 : Int32) y5, At E mX9_imageFault (d + 2) (qI fun x τ => x = nI (imF S (some q)) ∧ τ = σ) 101 [some (zr E 0), some (zr E (24 + 2 * r)), some (.int (nI i)), some (.int v), some (.int y4), y5] [] σ := by
          intro hn y4 y5
          rw [if_neg (fun z => hn (by rw [hvv]; exact z i hil))] at e0
          refine z_iconst 102 (v := nI 0) dX9_imageFault_101 rfl rfl ?_
          refine zs_istore_5_6 104 rfl dX9_imageFault_102 rfl rfl ?_
          refine z_iload 106 dX9_imageFault_104 rfl rfl ?_
          refine z_if_ne 111 109 dX9_imageFault_106 (by decide) rfl (fun h106 => ?_) (fun h106 => ?_)
          · (try rw [nI_eq0 (by omega)] at h106)
            omega
          · (try rw [nI_eq0 (by omega)] at h106)
            refine z_iconst 110 (v := nI 3) dX9_imageFault_109 rfl rfl ?_
            refine z_ri dX9_imageFault_110 rfl ?_
            rw [e0]
            exact ⟨rfl, rfl⟩
        by_cases hneg : v < 0
        · refine z_iload_n 23 dX9_imageFault_22 rfl rfl ?_
          refine z_aload_n 24 dX9_imageFault_23 rfl rfl ?_
          refine gX9_128 27 rfl dX9_imageFault_24 rfl (by first | assumption | rfl) ?_
          rw [hs]
          refine z_icmp_ge 117 30 dX9_imageFault_27 (by decide) rfl (fun h27 => ?_) (fun h27 => ?_)
          · (try rw [nI_leI (by omega) (by omega)] at h27)
            omega
          · (try rw [nI_leI (by omega) (by omega)] at h27)
            refine z_aload_n 31 dX9_imageFault_30 rfl rfl ?_
            refine z_iload_n 32 dX9_imageFault_31 rfl rfl ?_
            refine z_cVI1 35 (tX7_get hk hk1 hs q40 hil) kX7_get dX9_imageFault_32 rfl lX9_98 (by first | assumption | rfl) (Nat.le_of_ble_eq_true rfl) ?_
            rintro _ _ ⟨e1, e2⟩
            replace e1 := e1.symm
            replace e2 := e2.symm
            subst e1
            subst e2
            rw [hv]
            refine zs_istore_n_3_6 36 rfl dX9_imageFault_35 rfl rfl ?_
            refine z_iload_n 37 dX9_imageFault_36 rfl rfl ?_
            refine z_bipush 39 (v := nI 10) dX9_imageFault_37 rfl rfl ?_
            refine z_idiv 40 dX9_imageFault_39 rfl (by decide) ?_
            refine z_bipush 42 (v := nI 10) dX9_imageFault_40 rfl rfl ?_
            refine z_irem 43 dX9_imageFault_42 rfl (by decide) ?_
            refine zs_istore_4_6 45 rfl dX9_imageFault_43 rfl rfl ?_
            refine z_iload_n 46 dX9_imageFault_45 rfl rfl ?_
            refine z_if_lt 101 49 dX9_imageFault_46 (by decide) rfl (fun h46 => ?_) (fun h46 => ?_)
            · exact s101 (fun z => z.1.1 hneg) _ _
            · exact absurd hneg h46
        · obtain ⟨j, hj, rfl⟩ := nI_of hneg
          have hz : zx (nI j) = j := zx_nI hj
          refine z_iload_n 23 dX9_imageFault_22 rfl rfl ?_
          refine z_aload_n 24 dX9_imageFault_23 rfl rfl ?_
          refine gX9_128 27 rfl dX9_imageFault_24 rfl (by first | assumption | rfl) ?_
          rw [hs]
          refine z_icmp_ge 117 30 dX9_imageFault_27 (by decide) rfl (fun h27 => ?_) (fun h27 => ?_)
          · (try rw [nI_leI (by omega) (by omega)] at h27)
            omega
          · (try rw [nI_leI (by omega) (by omega)] at h27)
            refine z_aload_n 31 dX9_imageFault_30 rfl rfl ?_
            refine z_iload_n 32 dX9_imageFault_31 rfl rfl ?_
            refine z_cVI1 35 (tX7_get hk hk1 hs q40 hil) kX7_get dX9_imageFault_32 rfl lX9_98 (by first | assumption | rfl) (Nat.le_of_ble_eq_true rfl) ?_
            rintro _ _ ⟨e1, e2⟩
            replace e1 := e1.symm
            replace e2 := e2.symm
            subst e1
            subst e2
            rw [hv]
            refine zs_istore_n_3_6 36 rfl dX9_imageFault_35 rfl rfl ?_
            refine z_iload_n 37 dX9_imageFault_36 rfl rfl ?_
            refine z_bipush 39 (v := nI 10) dX9_imageFault_37 rfl rfl ?_
            refine z_idiv 40 dX9_imageFault_39 rfl (by decide) ?_
            rw [pk_div hj (by decide) (by decide)]
            refine z_bipush 42 (v := nI 10) dX9_imageFault_40 rfl rfl ?_
            refine z_irem 43 dX9_imageFault_42 rfl (by decide) ?_
            rw [pk_rem (by omega) (by decide) (by decide)]
            refine zs_istore_4_6 45 rfl dX9_imageFault_43 rfl rfl ?_
            refine z_iload_n 46 dX9_imageFault_45 rfl rfl ?_
            refine z_if_lt 101 49 dX9_imageFault_46 (by decide) rfl (fun h46 => ?_) (fun h46 => ?_)
            · exact absurd h46 hneg
            · refine z_iload_n 50 dX9_imageFault_49 rfl rfl ?_
              refine z_sipush 53 (v := nI 1000) dX9_imageFault_50 rfl rfl ?_
              refine z_idiv 54 dX9_imageFault_53 rfl (by decide) ?_
              rw [pk_div hj (by decide) (by decide)]
              refine z_bipush 56 (v := nI 6) dX9_imageFault_54 rfl rfl ?_
              refine z_icmp_ge 101 59 dX9_imageFault_56 (by decide) rfl (fun h56 => ?_) (fun h56 => ?_)
              · (try rw [nI_leI (by omega) (by omega)] at h56)
                refine s101 (fun z => ?_) _ _
                rw [pOK, hz] at z
                obtain ⟨z1, z2, z3, z4, z5, z6⟩ := z
                rw [inN_nI' hj] at z1
                first | omega | exact h70 ⟨z2, z3⟩
              · (try rw [nI_leI (by omega) (by omega)] at h56)
                refine z_aload_n 60 dX9_imageFault_59 rfl rfl ?_
                refine z_iload_n 61 dX9_imageFault_60 rfl rfl ?_
                refine z_bipush 63 (v := nI 100) dX9_imageFault_61 rfl rfl ?_
                refine z_idiv 64 dX9_imageFault_63 rfl (by decide) ?_
                rw [pk_div hj (by decide) (by decide)]
                refine z_bipush 66 (v := nI 10) dX9_imageFault_64 rfl rfl ?_
                refine z_irem 67 dX9_imageFault_66 rfl (by decide) ?_
                rw [pk_rem (by omega) (by decide) (by decide)]
                refine z_cVI1 70 (tX9_boxC hW hX (by omega)) kX9_boxCounts dX9_imageFault_67 rfl lX9_162 (by first | assumption | rfl) (Nat.le_of_ble_eq_true rfl) ?_
                rintro _ _ ⟨e1, e2⟩
                replace e1 := e1.symm
                replace e2 := e2.symm
                subst e1
                subst e2
                refine z_ifb_eq 101 73 dX9_imageFault_70 (by decide) rfl (fun h70 => ?_) (fun h70 => ?_)
                · refine s101 (fun z => ?_) _ _
                  rw [pOK, hz] at z
                  obtain ⟨z1, z2, z3, z4, z5, z6⟩ := z
                  rw [inN_nI' hj] at z1
                  first | omega | exact h70 ⟨z2, z3⟩
                · refine z_iload 75 dX9_imageFault_73 rfl rfl ?_
                  refine z_iconst 76 (v := nI 1) dX9_imageFault_75 rfl rfl ?_
                  refine z_icmp_lt 101 79 dX9_imageFault_76 (by decide) rfl (fun h76 => ?_) (fun h76 => ?_)
                  · (try rw [nI_ltI (by omega) (by omega)] at h76)
                    refine s101 (fun z => ?_) _ _
                    rw [pOK, hz] at z
                    obtain ⟨z1, z2, z3, z4, z5, z6⟩ := z
                    rw [inN_nI' hj] at z1
                    first | omega | exact h70 ⟨z2, z3⟩
                  · (try rw [nI_ltI (by omega) (by omega)] at h76)
                    refine z_iload 81 dX9_imageFault_79 rfl rfl ?_
                    refine z_bipush 83 (v := nI 6) dX9_imageFault_81 rfl rfl ?_
                    refine z_icmp_gt 101 86 dX9_imageFault_83 (by decide) rfl (fun h83 => ?_) (fun h83 => ?_)
                    · (try rw [nI_ltI (by omega) (by omega)] at h83)
                      refine s101 (fun z => ?_) _ _
                      rw [pOK, hz] at z
                      obtain ⟨z1, z2, z3, z4, z5, z6⟩ := z
                      rw [inN_nI' hj] at z1
                      first | omega | exact h70 ⟨z2, z3⟩
                    · (try rw [nI_ltI (by omega) (by omega)] at h83)
                      refine z_aload_n 87 dX9_imageFault_86 rfl rfl ?_
                      refine z_iload_n 88 dX9_imageFault_87 rfl rfl ?_
                      refine z_bipush 90 (v := nI 10) dX9_imageFault_88 rfl rfl ?_
                      refine z_irem 91 dX9_imageFault_90 rfl (by decide) ?_
                      rw [pk_rem hj (by decide) (by decide)]
                      refine z_cVI1 94 (tX9_isWord (by assumption) (by assumption)) kX9_isWord dX9_imageFault_91 rfl lX9_165 (by first | assumption | rfl) (Nat.le_of_ble_eq_true rfl) ?_
                      rintro _ _ ⟨e1, e2⟩
                      replace e1 := e1.symm
                      replace e2 := e2.symm
                      subst e1
                      subst e2
                      refine z_ifb_eq 101 97 dX9_imageFault_94 (by decide) rfl (fun h94 => ?_) (fun h94 => ?_)
                      · rw [inN_nI' (by omega)] at h94
                        refine s101 (fun z => ?_) _ _
                        rw [pOK, hz] at z
                        obtain ⟨z1, z2, z3, z4, z5, z6⟩ := z
                        rw [inN_nI' hj] at z1
                        first | omega | exact h70 ⟨z2, z3⟩
                      · rw [inN_nI' (by omega)] at h94
                        have hok : pOK S (nI j) := by rw [pOK, hz]; exact ⟨inN_nI (by omega) hj, h70.1, h70.2, by omega, by omega, h94⟩
                        refine z_iconst 98 (v := nI 1) dX9_imageFault_97 rfl rfl ?_
                        refine z_goto 102 dX9_imageFault_98 rfl ?_
                        refine zs_istore_5_6 104 rfl dX9_imageFault_102 rfl rfl ?_
                        refine z_iload 106 dX9_imageFault_104 rfl rfl ?_
                        refine z_if_ne 111 109 dX9_imageFault_106 (by decide) rfl (fun h106 => ?_) (fun h106 => ?_)
                        · (try rw [nI_eq0 (by omega)] at h106)
                          refine zs_iinc_2_6_1 114 rfl dX9_imageFault_111 rfl rfl ?_
                          rw [nI_add]
                          refine z_goto 22 dX9_imageFault_114 rfl ?_
                          refine ih (i + 1) (by omega) (by omega) (fun k hk => ?_) _ _ _
                          by_cases hki : k = i
                          · rw [hki, ← hvv]; exact hok
                          · exact hO k (by omega)
                        · (try rw [nI_eq0 (by omega)] at h106)
                          omega
    refine z_aload_n 1 dX9_imageFault_0 rfl rfl ?_
    refine z_cVI0 4 (tX7_isM hk hk1 hS) kX7_isMissing dX9_imageFault_1 rfl lX9_107 (by first | assumption | rfl) (Nat.le_of_ble_eq_true rfl) ?_
    rintro _ _ ⟨e1, e2⟩
    replace e1 := e1.symm
    replace e2 := e2.symm
    subst e1
    subst e2
    refine z_ifb_eq 9 7 dX9_imageFault_4 (by decide) rfl (fun h4 => ?_) (fun h4 => ?_)
    · refine z_aload_n 10 dX9_imageFault_9 rfl rfl ?_
      refine gX9_128 13 rfl dX9_imageFault_10 rfl (by first | assumption | rfl) ?_
      refine z_bipush 15 (v := nI 8) dX9_imageFault_13 rfl rfl ?_
      rw [hs]
      refine z_icmp_le 20 18 dX9_imageFault_15 (by decide) rfl (fun h15 => ?_) (fun h15 => ?_)
      · (try rw [nI_leI (by omega) (by omega)] at h15)
        refine z_iconst 21 (v := nI 0) dX9_imageFault_20 rfl rfl ?_
        refine zs_istore_n_2_6 22 rfl dX9_imageFault_21 rfl rfl ?_
        exact loop 0 (Nat.zero_le _) (fun k hk => absurd hk (Nat.not_lt_zero k)) _ _ _
      · (try rw [nI_leI (by omega) (by omega)] at h15)
        omega
    · exact absurd h4 (Option.some_ne_none _)
theorem RX.PL {S : sS} {σ τ : zM} {n : Nat} {f : Nat → sPly} (h : RX S σ) (hF : Fr (fun x y => x = 0 ∧ (y = 11 ∨ y = 12) ∨ 48 ≤ x ∧ x < 64 ∨ x = 8 ∨ x = 9) σ τ) (h1 : gi τ 0 11 = nI n) (h0 : gi τ 0 12 = nI 0) (h2 : ∀ p, p < n → Py τ (48 + 2 * p) (f p) (44 + 2 * (f p).2.1) ∧ ∀ w, w < 8 → gi τ (48 + 2 * p + 1) w = nI (bset (dList (us0 S.2.2.1 (f p).2.1 w) (dMost (f p))))) : RX (setL (setP S n f) 0 (sLf S)) τ := by
  refine ⟨h.1.fr hF (by intros; omega), h.2.1.fr hF (by intros; omega), h.2.2.1.fr hF (by intros; omega), ⟨h1, fun p hp => ?_⟩, ⟨h0, fun e he => absurd he (Nat.not_lt_zero e)⟩, h.2.2.2.2.2.fr hF (by intros; omega)⟩
  obtain ⟨⟨a1, a2, a3, a4, a5⟩, a6⟩ := h2 p hp
  exact ⟨a1, a2, a3, a4, a5, a6⟩
theorem RM.PL {S : sS} {σ τ : zM} {n : Nat} {f : Nat → sPly} (hW : WF S) (h : RM S σ) (hF : Fr (fun x y => x = 102 ∧ (y = 13 ∨ y = 35) ∨ x = 111) σ τ) (h1 : gi τ 102 13 = nI n) (h0 : gi τ 102 35 = nI 0) (h2 : ∀ p, p < n → mPy τ p (f p)) : RM (setL (setP S n f) 0 (sLf S)) τ :=
  ⟨h.1.fr hF (by intros; omega), h.2.1.fr hF (by intros; omega), h.2.2.1.fr (fun l hl => (hW.1 l hl).1) hF (by intros; omega), ⟨h1, h2⟩, ⟨h0, fun e he => absurd he (Nat.not_lt_zero e)⟩, h.2.2.2.2.2.fr hF (by intros; omega)⟩
def spOn (S : sS) (r : Int32) : Int32 × sS := if ¬ inN r 6 then (-1, S) else if ¬ imF S (sR S (zx r)) = 0 then sFd S (imF S (sR S (zx r))) else (nI (sSz (sR S (zx r))), setL (setP S (sSz (sR S (zx r))) (fun i => plD (sGet (sR S (zx r)) i))) 0 (sLf S))
theorem WF_on {S : sS} (hW : WF S) (r : Int32) : WF (spOn S r).2 := by
  unfold spOn
  split
  · exact hW
  · split
    · exact hW
    · rename_i h
      obtain ⟨q, hq, h8, hO⟩ := imF0 (Classical.not_not.mp h)
      rw [hq]
      refine ⟨hW.1, ⟨h8, fun p hp => ?_⟩, ⟨Nat.zero_le _, fun e he => absurd he (Nat.not_lt_zero e)⟩⟩
      obtain ⟨z1, z2, z3, z4, z5, z6⟩ := hO p hp
      have z1 : zx (q.2 p) < 6000 := z1.2
      show zx (q.2 p) / 1000 < 6 ∧ zx (q.2 p) / 100 % 10 < 2 ∧ 1 ≤ zx (q.2 p) / 10 % 10 ∧ zx (q.2 p) / 10 % 10 ≤ 6 ∧ zx (q.2 p) % 10 < sBw S 0 ∧ sBw S (zx (q.2 p) / 100 % 10) = sBw S 0
      exact ⟨by omega, z2, z4, z5, z6, z3.2⟩
set_option maxRecDepth 20000 in
theorem tX9_on {E : zE} {d : Nat} {σ : zM} {S : sS} {r : Int32} (hW : WF S) (hX : RX S σ) : Ret E mX9_on (d + 4) [zr E 0, .int r] σ (qX σ (spOn S r)) := by
  by_cases hA : ¬ inN r 6
  · refine Ret.of [some (zr E 0), some (.int r), none, none, none] (by decide +kernel) (Nat.le_of_ble_eq_true rfl) rfl ?_
    refine z_iload_n 1 dX9_on_0 rfl rfl ?_
    refine z_cSI1 4 (tX9_isRow) kX9_isRow dX9_on_1 rfl lX9_83 (Nat.le_of_ble_eq_true rfl) ?_
    rintro _ _ ⟨e1, e2⟩
    replace e1 := e1.symm
    replace e2 := e2.symm
    subst e1
    subst e2
    refine z_ifb_ne 9 7 dX9_on_4 (by decide) rfl (fun h4 => ?_) (fun h4 => ?_)
    · exact absurd h4 hA
    · refine z_iconst 8 (v := (-1)) dX9_on_7 rfl rfl ?_
      refine z_ri dX9_on_8 rfl ?_
      exact qx0 (if_pos hA) hX Fr.rf
  have e0 : spOn S r = _ := if_neg hA
  have hA : inN r 6 := Classical.byContradiction hA
  have hA' := hA
  obtain ⟨r, hr, rfl⟩ := inN_of hA
  rw [zx_nI (by omega)] at e0
  have hk := kd_r hr
  have hk1 := kd_r1 hr
  have hS : Sh σ (24 + 2 * r) 40 (sR S r) := hX.1 r hr
  have hpl := imF_lt S (sR S r)
  refine Ret.of [some (zr E 0), some (.int (nI r)), none, none, none] (by decide +kernel) (Nat.le_of_ble_eq_true rfl) rfl ?_
  by_cases hD : imF S (sR S r) = 0
  · rw [if_neg (fun z => z hD)] at e0
    obtain ⟨q, hq, h8, hO⟩ := imF0 hD
    rw [hq] at e0 hS
    have hs : gi σ (24 + 2 * r) 1 = nI q.1 := hS.2.1
    have q40 := hS.1
    have loop : ∀ i, i ≤ q.1 → ∀ τ, Fr (fun x y => x = 0 ∧ (y = 11 ∨ y = 12) ∨ 48 ≤ x ∧ x < 64 ∨ x = 8 ∨ x = 9) σ τ → gi τ 0 11 = nI q.1 → gi τ 0 12 = nI 0 → (∀ p, p < i → Py τ (48 + 2 * p) (plD (q.2 p)) (44 + 2 * (plD (q.2 p)).2.1) ∧ ∀ w, w < 8 → gi τ (48 + 2 * p + 1) w = nI (bset (dList (us0 S.2.2.1 (plD (q.2 p)).2.1 w) (dMost (plD (q.2 p)))))) → At E mX9_on (d + 4) (qX σ (spOn S (nI r))) 58 [some (zr E 0), some (.int (nI r)), some (.int (nI 0)), some (.int (nI i)), none] [] τ := by
      refine z_up (fun i hi ih τ hF h11 h12 hv => ?_)
      by_cases hie : i = q.1
      · subst hie
        refine z_iload_n 59 dX9_on_58 rfl rfl ?_
        refine z_aload_n 60 dX9_on_59 rfl rfl ?_
        refine gX9_150 63 rfl dX9_on_60 rfl ?_
        rw [h11]
        refine z_icmp_ge 116 66 dX9_on_63 (by decide) rfl (fun h63 => ?_) (fun h63 => ?_)
        · (try rw [nI_leI (by omega) (by omega)] at h63)
          refine z_aload_n 117 dX9_on_116 rfl rfl ?_
          refine gX9_150 120 rfl dX9_on_117 rfl ?_
          rw [h11]
          refine z_ri dX9_on_120 rfl ?_
          exact qx0 e0 (hX.PL hF h11 h12 hv) (hF.mono (by intros; omega))
        · (try rw [nI_leI (by omega) (by omega)] at h63)
          omega
      · have hil : i < q.1 := by omega
        have hST : Sh τ (24 + 2 * r) 40 (some q) := hS.fr hF (by omega) (by intros; omega)
        have hgv : gi τ (24 + 2 * r + 1) i = q.2 i := hST.2.2 i hil
        obtain ⟨z1, z2, z3, z4, z5, z6⟩ := hO i hil
        obtain ⟨j, hj, ej⟩ := inN_of z1
        have hz : zx (q.2 i) = j := by rw [ej]; exact zx_nI (by omega)
        rw [hz] at z2 z3 z4 z5 z6
        rw [ej] at hgv
        have epl : plD (q.2 i) = (j / 1000, j / 100 % 10, j / 10 % 10, j % 10) := by unfold plD; rw [hz]
        have hB : Bx τ (44 + 2 * (j / 100 % 10)) (sBw S (j / 100 % 10)) (sUs S (j / 100 % 10)) := (hX.bx hW z2).fr hF (by intros; omega) (by intros; omega)
        refine z_iload_n 59 dX9_on_58 rfl rfl ?_
        refine z_aload_n 60 dX9_on_59 rfl rfl ?_
        refine gX9_150 63 rfl dX9_on_60 rfl ?_
        rw [h11]
        refine z_icmp_ge 116 66 dX9_on_63 (by decide) rfl (fun h63 => ?_) (fun h63 => ?_)
        · (try rw [nI_leI (by omega) (by omega)] at h63)
          omega
        · (try rw [nI_leI (by omega) (by omega)] at h63)
          refine z_aload_n 67 dX9_on_66 rfl rfl ?_
          refine gX9_11 70 rfl dX9_on_67 rfl ?_
          refine z_iload_n 71 dX9_on_70 rfl rfl ?_
          refine z_aald1 72 dX9_on_71 rfl (by omega) ?_
          refine z_iload_n 73 dX9_on_72 rfl rfl ?_
          refine z_cVI1 76 (tX7_get hk hk1 hST.2.1 q40 hil) kX7_get dX9_on_73 rfl lX9_98 (by first | assumption | rfl) (Nat.le_of_ble_eq_true rfl) ?_
          rintro _ _ ⟨e1, e2⟩
          replace e1 := e1.symm
          replace e2 := e2.symm
          subst e1
          subst e2
          rw [hgv]
          refine zs_istore_4_5 78 rfl dX9_on_76 rfl rfl ?_
          refine z_aload_n 79 dX9_on_78 rfl rfl ?_
          refine z_iload_n 80 dX9_on_79 rfl rfl ?_
          refine z_iload 82 dX9_on_80 rfl rfl ?_
          refine z_sipush 85 (v := nI 1000) dX9_on_82 rfl rfl ?_
          refine z_idiv 86 dX9_on_85 rfl (by decide) ?_
          rw [pk_div (by omega) (by decide) (by decide)]
          refine z_iload 88 dX9_on_86 rfl rfl ?_
          refine z_bipush 90 (v := nI 100) dX9_on_88 rfl rfl ?_
          refine z_idiv 91 dX9_on_90 rfl (by decide) ?_
          rw [pk_div (by omega) (by decide) (by decide)]
          refine z_bipush 93 (v := nI 10) dX9_on_91 rfl rfl ?_
          refine z_irem 94 dX9_on_93 rfl (by decide) ?_
          rw [pk_rem (by omega) (by decide) (by decide)]
          refine z_iload 96 dX9_on_94 rfl rfl ?_
          refine z_bipush 98 (v := nI 10) dX9_on_96 rfl rfl ?_
          refine z_idiv 99 dX9_on_98 rfl (by decide) ?_
          rw [pk_div (by omega) (by decide) (by decide)]
          refine z_bipush 101 (v := nI 10) dX9_on_99 rfl rfl ?_
          refine z_irem 102 dX9_on_101 rfl (by decide) ?_
          rw [pk_rem (by omega) (by decide) (by decide)]
          refine z_iload 104 dX9_on_102 rfl rfl ?_
          refine z_bipush 106 (v := nI 10) dX9_on_104 rfl rfl ?_
          refine z_irem 107 dX9_on_106 rfl (by decide) ?_
          rw [pk_rem (by omega) (by decide) (by decide)]
          refine z_cVV5 110 (tX9_seatPlayer (n := q.1) (bw := sBw S (j / 100 % 10)) (u := sUs S (j / 100 % 10)) h11 h8 hil z2 (by omega) z4 z5 hB (fun w p hp => uz_le hW z2 w p hp)) kX9_seatPlayer dX9_on_107 rfl lX9_172 (by first | assumption | rfl) (Nat.le_of_ble_eq_true rfl) ?_
          rintro τ1 ⟨hF1, hP1, hv1⟩
          refine zs_iinc_3_5_1 113 rfl dX9_on_110 rfl rfl ?_
          rw [nI_add]
          refine z_goto 58 dX9_on_113 rfl ?_
          refine zf_4_5 (ih (i + 1) (by omega) (by omega) τ1 (hF.tr hF1 (fun _ _ h => h) (by intros; omega)) ((hF1.gi (by omega)).trans h11) ((hF1.gi (by omega)).trans h12) (fun p hp => ?_))
          by_cases hpi : p = i
          · rw [hpi, epl]; exact ⟨hP1, hv1⟩
          · exact ⟨(hv p (by omega)).1.fr hF1 (by intros; omega), fun w hw => (hF1.gi (by omega)).trans ((hv p (by omega)).2 w hw)⟩
    refine z_iload_n 1 dX9_on_0 rfl rfl ?_
    refine z_cSI1 4 (tX9_isRow) kX9_isRow dX9_on_1 rfl lX9_83 (Nat.le_of_ble_eq_true rfl) ?_
    rintro _ _ ⟨e1, e2⟩
    replace e1 := e1.symm
    replace e2 := e2.symm
    subst e1
    subst e2
    refine z_ifb_ne 9 7 dX9_on_4 (by decide) rfl (fun h4 => ?_) (fun h4 => ?_)
    · refine z_aload_n 10 dX9_on_9 rfl rfl ?_
      refine z_aload_n 11 dX9_on_10 rfl rfl ?_
      refine gX9_11 14 rfl dX9_on_11 rfl ?_
      refine z_iload_n 15 dX9_on_14 rfl rfl ?_
      refine z_aald1 16 dX9_on_15 rfl (by omega) ?_
      refine z_cVI1 19 (tX9_imageFault hW hX hr) kX9_imageFault dX9_on_16 rfl lX9_363 (by first | assumption | rfl) (Nat.le_of_ble_eq_true rfl) ?_
      rintro _ _ ⟨e1, e2⟩
      replace e1 := e1.symm
      replace e2 := e2.symm
      subst e1
      subst e2
      rw [hD]
      refine zs_istore_n_2_5 20 rfl dX9_on_19 rfl rfl ?_
      refine z_iload_n 21 dX9_on_20 rfl rfl ?_
      refine z_if_eq 33 24 dX9_on_21 (by decide) rfl (fun h21 => ?_) (fun h21 => ?_)
      · (try rw [nI_eq0 (by omega)] at h21)
        refine z_aload_n 34 dX9_on_33 rfl rfl ?_
        refine z_aload_n 35 dX9_on_34 rfl rfl ?_
        refine gX9_11 38 rfl dX9_on_35 rfl ?_
        refine z_iload_n 39 dX9_on_38 rfl rfl ?_
        refine z_aald1 40 dX9_on_39 rfl (by omega) ?_
        refine gX9_128 43 rfl dX9_on_40 rfl (by first | assumption | rfl) ?_
        rw [hs]
        refine z_bipush 45 (v := nI 8) dX9_on_43 rfl rfl ?_
        refine z_mmin 48 dX9_on_45 rfl lX9_366 kM_min_s kM_i kM_min_c (Nat.le_of_ble_eq_true rfl) ?_
        rw [nI_min (by omega) (by omega), Nat.min_eq_left h8]
        refine pX9_150 51 rfl dX9_on_48 rfl ?_
        refine z_aload_n 52 dX9_on_51 rfl rfl ?_
        refine z_iconst 53 (v := nI 0) dX9_on_52 rfl rfl ?_
        refine pX9_153 56 rfl dX9_on_53 rfl ?_
        refine z_iconst 57 (v := nI 0) dX9_on_56 rfl rfl ?_
        refine zs_istore_n_3_5 58 rfl dX9_on_57 rfl rfl ?_
        exact loop 0 (Nat.zero_le _) _ ((Fr.si (P := fun x y => x = 0 ∧ (y = 11 ∨ y = 12) ∨ 48 ≤ x ∧ x < 64 ∨ x = 8 ∨ x = 9) Fr.rf _ (by omega)).si _ (by omega)) ((gi_s2 _ _ (by omega)).trans (gi_s1 _ _ _ _)) (gi_s1 _ _ _ _) (fun p hp => absurd hp (Nat.not_lt_zero p))
      · (try rw [nI_eq0 (by omega)] at h21)
        exact absurd rfl h21
    · exact absurd hA' h4
  · rw [if_pos hD] at e0
    refine z_iload_n 1 dX9_on_0 rfl rfl ?_
    refine z_cSI1 4 (tX9_isRow) kX9_isRow dX9_on_1 rfl lX9_83 (Nat.le_of_ble_eq_true rfl) ?_
    rintro _ _ ⟨e1, e2⟩
    replace e1 := e1.symm
    replace e2 := e2.symm
    subst e1
    subst e2
    refine z_ifb_ne 9 7 dX9_on_4 (by decide) rfl (fun h4 => ?_) (fun h4 => ?_)
    · refine z_aload_n 10 dX9_on_9 rfl rfl ?_
      refine z_aload_n 11 dX9_on_10 rfl rfl ?_
      refine gX9_11 14 rfl dX9_on_11 rfl ?_
      refine z_iload_n 15 dX9_on_14 rfl rfl ?_
      refine z_aald1 16 dX9_on_15 rfl (by omega) ?_
      refine z_cVI1 19 (tX9_imageFault hW hX hr) kX9_imageFault dX9_on_16 rfl lX9_363 (by first | assumption | rfl) (Nat.le_of_ble_eq_true rfl) ?_
      rintro _ _ ⟨e1, e2⟩
      replace e1 := e1.symm
      replace e2 := e2.symm
      subst e1
      subst e2
      refine zs_istore_n_2_5 20 rfl dX9_on_19 rfl rfl ?_
      refine z_iload_n 21 dX9_on_20 rfl rfl ?_
      refine z_if_eq 33 24 dX9_on_21 (by decide) rfl (fun h21 => ?_) (fun h21 => ?_)
      · (try rw [nI_eq0 (by omega)] at h21)
        exact absurd h21 hD
      · (try rw [nI_eq0 (by omega)] at h21)
        refine z_aload_n 25 dX9_on_24 rfl rfl ?_
        refine gX9_39 28 rfl dX9_on_25 rfl ?_
        refine z_iload_n 29 dX9_on_28 rfl rfl ?_
        refine z_cVI1 32 (tX0_found (by omega) hpl) kX0_found dX9_on_29 rfl lX9_87 (by first | assumption | rfl) (Nat.le_of_ble_eq_true rfl) ?_
        rintro _ _ ⟨e1, e2⟩
        replace e1 := e1.symm
        replace e2 := e2.symm
        subst e1
        subst e2
        refine z_ri dX9_on_32 rfl ?_
        exact qxf hW e0 hpl hX Fr.rf
    · exact absurd hA' h4
