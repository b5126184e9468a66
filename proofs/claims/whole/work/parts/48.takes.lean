/-! the nearest leaf, of the reference -/
def wdO (S : sS) (b : Option Nat) : Int32 := match b with
  | none => -9
  | some e => nI (sLf S e).2.2.1
set_option maxRecDepth 20000 in
theorem tX10_takes {E : zE} {d : Nat} {σ : zM} {S : sS} {s : Nat} {x : Int32} (hW : WF S) (hX : RM S σ) (hs : s < 1024) : Ret E mX10_takes (d + 1) [zr E 102, .int (nI s), .int x] σ (qI fun r τ => r = wdO S (near S s x (sLc S)) ∧ Fr (fun a j => a = 102 ∧ j = 37) σ τ ∧ RM S τ ∧ ∀ e, near S s x (sLc S) = some e → gi τ 102 37 = nI (unS S s e)) := by
  have h12 := hW.2.2.1
  have hb8 := bw_le hW (show 0 < 2 by omega)
  refine Ret.of [some (zr E 102), some (.int (nI s)), some (.int x), none, none, none] (by decide +kernel) (Nat.le_of_ble_eq_true rfl) rfl ?_
  have loop : ∀ i, i ≤ sLc S → ∀ y τ, Fr (fun a j => a = 102 ∧ j = 37) σ τ → RM S τ → (∀ e, near S s x i = some e → gi τ 102 37 = nI (unS S s e)) → At E mX10_takes (d + 1) (qI fun r τ => r = wdO S (near S s x (sLc S)) ∧ Fr (fun a j => a = 102 ∧ j = 37) σ τ ∧ RM S τ ∧ ∀ e, near S s x (sLc S) = some e → gi τ 102 37 = nI (unS S s e)) 6 [some (zr E 102), some (.int (nI s)), some (.int x), some (.int (wdO S (near S s x i))), some (.int (nI i)), y] [] τ := by
    refine z_up (fun i hi ih y τ hF hR hU => ?_)
    have hlc : gi τ 102 35 = nI (sLc S) := hR.2.2.2.2.1.1
    by_cases hie : i = sLc S
    · subst hie
      refine z_iload 8 dX10_takes_6 rfl rfl ?_
      refine z_aload_n 9 dX10_takes_8 rfl rfl ?_
      refine gX10_141 12 rfl dX10_takes_9 rfl ?_
      rw [hlc]
      refine z_icmp_ge 80 15 dX10_takes_12 (by decide) rfl (fun h12 => ?_) (fun h12 => ?_)
      · (try rw [nI_leI (by omega) (by omega)] at h12)
        refine z_iload_n 81 dX10_takes_80 rfl rfl ?_
        refine z_ri dX10_takes_81 rfl ?_
        exact ⟨rfl, hF, hR, hU⟩
      · (try rw [nI_leI (by omega) (by omega)] at h12)
        omega
    · have hil : i < sLc S := by omega
      have hg : gi τ 124 (12 * i + 0) = bI (sLf S i).1 := (hR.2.2.2.2.1.2 i hil).1
      have hset : gi τ 124 (12 * i + 3) = nI (lfS S i) := (hR.2.2.2.2.1.2 i hil).2.2.2.1
      have hwd : gi τ 124 (12 * i + 2) = nI (sLf S i).2.2.1 := (hR.2.2.2.2.1.2 i hil).2.2.1
      have u1 : unS S s i ≤ 10 := pop_le _
      have u2 := nrV_le S s (near S s x i)
      have hxl : lfS S i ^^^ s < 1024 := Nat.xor_lt_two_pow (n := 10) (lfS_lt hW hil) hs
      have hno : ¬ ((sLf S i).1 = false ∧ ¬ nI i = x ∧ unS S s i < nrV S s (near S s x i)) → near S s x (i + 1) = near S s x i := fun h => if_neg h
      have hye : ((sLf S i).1 = false ∧ ¬ nI i = x ∧ unS S s i < nrV S s (near S s x i)) → near S s x (i + 1) = some i := fun h => if_pos h
      have stay : ∀ y, ¬ ((sLf S i).1 = false ∧ ¬ nI i = x ∧ unS S s i < nrV S s (near S s x i)) → At E mX10_takes (d + 1) (qI fun r τ => r = wdO S (near S s x (sLc S)) ∧ Fr (fun a j => a = 102 ∧ j = 37) σ τ ∧ RM S τ ∧ ∀ e, near S s x (sLc S) = some e → gi τ 102 37 = nI (unS S s e)) 74 [some (zr E 102), some (.int (nI s)), some (.int x), some (.int (wdO S (near S s x i))), some (.int (nI i)), y] [] τ := by
        intro y hc
        have hih := ih (i + 1) (by omega) (by omega) y τ hF hR (by rw [hno hc]; exact hU)
        rw [hno hc] at hih
        refine zs_iinc_4_6_1 77 rfl dX10_takes_74 rfl rfl ?_
        rw [nI_add]
        refine z_goto 6 dX10_takes_77 rfl ?_
        exact hih
      have take : ((sLf S i).1 = false ∧ ¬ nI i = x ∧ unS S s i < nrV S s (near S s x i)) → At E mX10_takes (d + 1) (qI fun r τ => r = wdO S (near S s x (sLc S)) ∧ Fr (fun a j => a = 102 ∧ j = 37) σ τ ∧ RM S τ ∧ ∀ e, near S s x (sLc S) = some e → gi τ 102 37 = nI (unS S s e)) 60 [some (zr E 102), some (.int (nI s)), some (.int x), some (.int (wdO S (near S s x i))), some (.int (nI i)), some (.int (nI (unS S s i)))] [] τ := by
        intro hc
        have hf1 : Fr (fun a j => a = 102 ∧ j = 37) τ (si τ 102 37 (nI (unS S s i))) := Fr.rf.si _ ⟨rfl, rfl⟩
        have hih := ih (i + 1) (by omega) (by omega) (some (.int (nI (unS S s i)))) _ (hF.tr hf1 (fun _ _ h => h) (fun _ _ h => h)) (hR.scr hW (hf1.mono (by unfold mS; intros; omega))) (by rw [hye hc]; intro e he; rw [← Option.some.inj he]; exact gi_s1 _ _ _ _)
        rw [hye hc] at hih
        refine z_aload_n 61 dX10_takes_60 rfl rfl ?_
        refine z_iload 63 dX10_takes_61 rfl rfl ?_
        refine z_iconst 64 (v := nI 2) dX10_takes_63 rfl rfl ?_
        refine z_cVI2 67 (tX10_leafTells (by omega) (by omega)) kX10_leafTells dX10_takes_64 rfl lX10_304 (by first | assumption | rfl) (Nat.le_of_ble_eq_true rfl) ?_
        rintro _ _ ⟨e1, e2⟩
        replace e1 := e1.symm
        replace e2 := e2.symm
        subst e1
        subst e2
        rw [hwd]
        refine zs_istore_n_3_6 68 rfl dX10_takes_67 rfl rfl ?_
        refine z_aload_n 69 dX10_takes_68 rfl rfl ?_
        refine z_iload 71 dX10_takes_69 rfl rfl ?_
        refine pX10_319 74 rfl dX10_takes_71 rfl ?_
        refine zs_iinc_4_6_1 77 rfl dX10_takes_74 rfl rfl ?_
        rw [nI_add]
        refine z_goto 6 dX10_takes_77 rfl ?_
        exact hih
      cases hgs : (sLf S i).1 with
      | true =>
        rw [hgs] at hg
        refine z_iload 8 dX10_takes_6 rfl rfl ?_
        refine z_aload_n 9 dX10_takes_8 rfl rfl ?_
        refine gX10_141 12 rfl dX10_takes_9 rfl ?_
        rw [hlc]
        refine z_icmp_ge 80 15 dX10_takes_12 (by decide) rfl (fun h12 => ?_) (fun h12 => ?_)
        · (try rw [nI_leI (by omega) (by omega)] at h12)
          omega
        · (try rw [nI_leI (by omega) (by omega)] at h12)
          refine z_aload_n 16 dX10_takes_15 rfl rfl ?_
          refine z_iload 18 dX10_takes_16 rfl rfl ?_
          refine z_iconst 19 (v := nI 0) dX10_takes_18 rfl rfl ?_
          refine z_cVI2 22 (tX10_leafTells (by omega) (by omega)) kX10_leafTells dX10_takes_19 rfl lX10_304 (by first | assumption | rfl) (Nat.le_of_ble_eq_true rfl) ?_
          rintro _ _ ⟨e1, e2⟩
          replace e1 := e1.symm
          replace e2 := e2.symm
          subst e1
          subst e2
          rw [hg]
          refine z_if_ne 74 25 dX10_takes_22 (by decide) rfl (fun h22 => ?_) (fun h22 => ?_)
          · exact stay _ (fun z => absurd z.1 (by rw [hgs]; decide))
          · exact absurd h22 (by decide)
      | false =>
        rw [hgs] at hg
        cases hnr : near S s x i with
        | none =>
          rw [hnr] at stay take
          refine z_iload 8 dX10_takes_6 rfl rfl ?_
          refine z_aload_n 9 dX10_takes_8 rfl rfl ?_
          refine gX10_141 12 rfl dX10_takes_9 rfl ?_
          rw [hlc]
          refine z_icmp_ge 80 15 dX10_takes_12 (by decide) rfl (fun h12 => ?_) (fun h12 => ?_)
          · (try rw [nI_leI (by omega) (by omega)] at h12)
            omega
          · (try rw [nI_leI (by omega) (by omega)] at h12)
            refine z_aload_n 16 dX10_takes_15 rfl rfl ?_
            refine z_iload 18 dX10_takes_16 rfl rfl ?_
            refine z_iconst 19 (v := nI 0) dX10_takes_18 rfl rfl ?_
            refine z_cVI2 22 (tX10_leafTells (by omega) (by omega)) kX10_leafTells dX10_takes_19 rfl lX10_304 (by first | assumption | rfl) (Nat.le_of_ble_eq_true rfl) ?_
            rintro _ _ ⟨e1, e2⟩
            replace e1 := e1.symm
            replace e2 := e2.symm
            subst e1
            subst e2
            rw [hg]
            refine z_if_ne 74 25 dX10_takes_22 (by decide) rfl (fun h22 => ?_) (fun h22 => ?_)
            · exact absurd rfl h22
            · refine z_iload 27 dX10_takes_25 rfl rfl ?_
              refine z_iload_n 28 dX10_takes_27 rfl rfl ?_
              refine z_icmp_eq 74 31 dX10_takes_28 (by decide) rfl (fun h28 => ?_) (fun h28 => ?_)
              · exact stay _ (fun z => z.2.1 h28)
              · refine z_aload_n 32 dX10_takes_31 rfl rfl ?_
                refine z_iload 34 dX10_takes_32 rfl rfl ?_
                refine z_iconst 35 (v := nI 3) dX10_takes_34 rfl rfl ?_
                refine z_cVI2 38 (tX10_leafTells (by omega) (by omega)) kX10_leafTells dX10_takes_35 rfl lX10_304 (by first | assumption | rfl) (Nat.le_of_ble_eq_true rfl) ?_
                rintro _ _ ⟨e1, e2⟩
                replace e1 := e1.symm
                replace e2 := e2.symm
                subst e1
                subst e2
                refine z_iload_n 39 dX10_takes_38 rfl rfl ?_
                rw [hset]
                refine z_ixor 40 dX10_takes_39 rfl ?_
                rw [zb_xor]
                refine z_cSI1 43 (tX10_sizeOf hxl) kX10_sizeOf dX10_takes_40 rfl lX10_282 (Nat.le_of_ble_eq_true rfl) ?_
                rintro _ _ ⟨e1, e2⟩
                replace e1 := e1.symm
                replace e2 := e2.symm
                subst e1
                subst e2
                refine zs_istore_5_6 45 rfl dX10_takes_43 rfl rfl ?_
                refine z_iload_n 46 dX10_takes_45 rfl rfl ?_
                refine z_bipush 48 (v := (-9)) dX10_takes_46 rfl rfl ?_
                refine z_icmp_eq 60 51 dX10_takes_48 (by decide) rfl (fun h48 => ?_) (fun h48 => ?_)
                · exact take ⟨hgs, h28, by show unS S s i < 11; omega⟩
                · exact absurd rfl h48
        | some e =>
          have hUe := hU e hnr
          have hel := near_lt i e hnr
          have hew := lfWord hW (show e < sLc S by omega)
          have u3 : unS S s e ≤ 10 := pop_le _
          rw [hnr] at stay take
          refine z_iload 8 dX10_takes_6 rfl rfl ?_
          refine z_aload_n 9 dX10_takes_8 rfl rfl ?_
          refine gX10_141 12 rfl dX10_takes_9 rfl ?_
          rw [hlc]
          refine z_icmp_ge 80 15 dX10_takes_12 (by decide) rfl (fun h12 => ?_) (fun h12 => ?_)
          · (try rw [nI_leI (by omega) (by omega)] at h12)
            omega
          · (try rw [nI_leI (by omega) (by omega)] at h12)
            refine z_aload_n 16 dX10_takes_15 rfl rfl ?_
            refine z_iload 18 dX10_takes_16 rfl rfl ?_
            refine z_iconst 19 (v := nI 0) dX10_takes_18 rfl rfl ?_
            refine z_cVI2 22 (tX10_leafTells (by omega) (by omega)) kX10_leafTells dX10_takes_19 rfl lX10_304 (by first | assumption | rfl) (Nat.le_of_ble_eq_true rfl) ?_
            rintro _ _ ⟨e1, e2⟩
            replace e1 := e1.symm
            replace e2 := e2.symm
            subst e1
            subst e2
            rw [hg]
            refine z_if_ne 74 25 dX10_takes_22 (by decide) rfl (fun h22 => ?_) (fun h22 => ?_)
            · exact absurd rfl h22
            · refine z_iload 27 dX10_takes_25 rfl rfl ?_
              refine z_iload_n 28 dX10_takes_27 rfl rfl ?_
              refine z_icmp_eq 74 31 dX10_takes_28 (by decide) rfl (fun h28 => ?_) (fun h28 => ?_)
              · first | exact stay _ (fun z => z.2.1 h28) | exact stay _ (fun z => by have z2 : unS S s i < unS S s e := z.2.2; omega)
              · refine z_aload_n 32 dX10_takes_31 rfl rfl ?_
                refine z_iload 34 dX10_takes_32 rfl rfl ?_
                refine z_iconst 35 (v := nI 3) dX10_takes_34 rfl rfl ?_
                refine z_cVI2 38 (tX10_leafTells (by omega) (by omega)) kX10_leafTells dX10_takes_35 rfl lX10_304 (by first | assumption | rfl) (Nat.le_of_ble_eq_true rfl) ?_
                rintro _ _ ⟨e1, e2⟩
                replace e1 := e1.symm
                replace e2 := e2.symm
                subst e1
                subst e2
                refine z_iload_n 39 dX10_takes_38 rfl rfl ?_
                rw [hset]
                refine z_ixor 40 dX10_takes_39 rfl ?_
                rw [zb_xor]
                refine z_cSI1 43 (tX10_sizeOf hxl) kX10_sizeOf dX10_takes_40 rfl lX10_282 (Nat.le_of_ble_eq_true rfl) ?_
                rintro _ _ ⟨e1, e2⟩
                replace e1 := e1.symm
                replace e2 := e2.symm
                subst e1
                subst e2
                rw [show pop (lfS S i ^^^ s) = unS S s i from rfl]
                refine zs_istore_5_6 45 rfl dX10_takes_43 rfl rfl ?_
                refine z_iload_n 46 dX10_takes_45 rfl rfl ?_
                refine z_bipush 48 (v := (-9)) dX10_takes_46 rfl rfl ?_
                refine z_icmp_eq 60 51 dX10_takes_48 (by decide) rfl (fun h48 => ?_) (fun h48 => ?_)
                · exact absurd (nI_pos' (show (sLf S e).2.2.1 < 2 ^ 31 by omega)) (by rw [show nI (sLf S e).2.2.1 = -9 from h48]; decide)
                · refine z_iload 53 dX10_takes_51 rfl rfl ?_
                  refine z_aload_n 54 dX10_takes_53 rfl rfl ?_
                  refine gX10_319 57 rfl dX10_takes_54 rfl ?_
                  rw [hUe]
                  refine z_icmp_ge 74 60 dX10_takes_57 (by decide) rfl (fun h57 => ?_) (fun h57 => ?_)
                  · (try rw [nI_leI (by omega) (by omega)] at h57)
                    first | exact stay _ (fun z => z.2.1 h28) | exact stay _ (fun z => by have z2 : unS S s i < unS S s e := z.2.2; omega)
                  · (try rw [nI_leI (by omega) (by omega)] at h57)
                    exact take ⟨hgs, h28, by show unS S s i < unS S s e; omega⟩
  refine z_bipush 2 (v := (-9)) dX10_takes_0 rfl rfl ?_
  refine zs_istore_n_3_6 3 rfl dX10_takes_2 rfl rfl ?_
  refine z_iconst 4 (v := nI 0) dX10_takes_3 rfl rfl ?_
  refine zs_istore_4_6 6 rfl dX10_takes_4 rfl rfl ?_
  exact loop 0 (Nat.zero_le _) _ σ Fr.rf hX (fun e he => absurd he (fun z => nomatch z))
