/-! guesser of the reference -/
set_option maxRecDepth 20000 in
theorem tX10_shareByLeaf {E : zE} {d : Nat} {σ : zM} {S : sS} {p k e : Nat} (hW : WF S) (hX : RM S σ) (hp : p < sPc S) (hk : k < 6) (hP : mPy σ 8 (lk S p k)) (he : e < sLc S) : Ret E mX10_shareByLeaf (d + 6) [zr E 102, .int (nI 8), .int (nI e)] σ (qI fun x τ => x = nI (shL S p k e) ∧ Fr (fun a j => a = 102 ∧ (j = 16 ∨ j = 18) ∨ a = 112 ∨ a = 113 ∨ a = 114 ∨ a = 115) σ τ ∧ RM S τ) := by
  have h12 := hW.2.2.1
  have hww := lfWord hW he
  have hb8 := bw_le hW (show 0 < 2 by omega)
  have hpt := lfPts hW he
  have n6 := hpt.2.1
  obtain ⟨l1, l2, l3, l4, l5, l6, l7⟩ := hX.2.2.2.2.1.2 e he
  have hn : gi σ 124 (12 * e + 5) = nI (sLf S e).2.2.2.1 := l6
  have hV : ∀ τ, RM S τ → mByV τ (byI (sLf S e).2.2.2.2.2) (sBw S 0) (DB S (sLf S e).2.2.2.2.2) := by
    intro τ hR
    cases ho : (sLf S e).2.2.2.2.2 with
    | none => exact mByV.none
    | some q => exact hR.by hW ((hW.2.2.2 e he).2.2.2.2.2 q ho)
  refine Ret.of [some (zr E 102), some (.int (nI 8)), some (.int (nI e)), none] (by decide +kernel) (Nat.le_of_ble_eq_true rfl) rfl ?_
  have loop : ∀ i, i ≤ (sLf S e).2.2.2.1 → ∀ τ, Fr (fun a j => a = 102 ∧ j = 18 ∨ a = 113) σ τ → RM S τ → gi τ 102 18 = nI (sLf S e).2.2.2.1 → (∀ j, j < i → gi τ 113 j = nI ((sLf S e).2.2.2.2.1 j)) → At E mX10_shareByLeaf (d + 6) (qI fun x τ => x = nI (shL S p k e) ∧ Fr (fun a j => a = 102 ∧ (j = 16 ∨ j = 18) ∨ a = 112 ∨ a = 113 ∨ a = 114 ∨ a = 115) σ τ ∧ RM S τ) 12 [some (zr E 102), some (.int (nI 8)), some (.int (nI e)), some (.int (nI i))] [] τ := by
    refine z_up (fun i hi ih τ hF hR hs hv => ?_)
    obtain ⟨k1, k2, k3, k4, k5, k6, k7⟩ := hR.2.2.2.2.1.2 e he
    by_cases hie : i = (sLf S e).2.2.2.1
    · have hv : ∀ j, j < (sLf S e).2.2.2.1 → gi τ 113 j = nI ((sLf S e).2.2.2.2.1 j) := by rw [← hie]; exact hv
      refine z_iload_n 13 dX10_shareByLeaf_12 rfl rfl ?_
      refine z_aload_n 14 dX10_shareByLeaf_13 rfl rfl ?_
      refine gX10_178 17 rfl dX10_shareByLeaf_14 rfl ?_
      rw [hs]
      refine z_icmp_ge 41 20 dX10_shareByLeaf_17 (by decide) rfl (fun h17 => ?_) (fun h17 => ?_)
      · (try rw [nI_leI (by omega) (by omega)] at h17)
        refine z_aload_n 42 dX10_shareByLeaf_41 rfl rfl ?_
        refine z_iload_n 43 dX10_shareByLeaf_42 rfl rfl ?_
        refine z_aload_n 44 dX10_shareByLeaf_43 rfl rfl ?_
        refine z_iload_n 45 dX10_shareByLeaf_44 rfl rfl ?_
        refine z_iconst 46 (v := nI 4) dX10_shareByLeaf_45 rfl rfl ?_
        refine z_cVI2 49 (tX10_leafTells (by omega) (by omega)) kX10_leafTells dX10_shareByLeaf_46 rfl lX10_304 (by first | assumption | rfl) (Nat.le_of_ble_eq_true rfl) ?_
        rintro _ _ ⟨e1, e2⟩
        replace e1 := e1.symm
        replace e2 := e2.symm
        subst e1
        subst e2
        rw [show gi τ 124 (12 * e + 4) = byI (sLf S e).2.2.2.2.2 from k5]
        refine z_cVV2 52 (tX10_setShares (p := 8) (bw := sBw S 0) (n := (sLf S e).2.2.2.1) (g := (sLf S e).2.2.2.2.1) (u := sUs S (sPl S p).2.1) (by omega) (hP.fr hF (by intros; omega)) (lkOK hW hp hk) hR.w0 (hR.bxp hW hp) (fun w hw => usLe hW hp hw) ⟨hs, hv⟩ hpt (hV τ hR)) kX10_setShares dX10_shareByLeaf_49 rfl lX10_193 (by first | assumption | rfl) (Nat.le_of_ble_eq_true rfl) ?_
        rintro τ1 ⟨hF1, hS1⟩
        have hX1 : RM S τ1 := hR.scr hW (hF1.mono (by unfold mS; intros; omega))
        have hS1 : mShr τ1 (sBw S 0) (fv S p) (gL S p k e) := hS1
        refine z_aload_n 53 dX10_shareByLeaf_52 rfl rfl ?_
        refine gX10_50 56 rfl dX10_shareByLeaf_53 rfl ?_
        refine z_aload_n 57 dX10_shareByLeaf_56 rfl rfl ?_
        refine z_iload_n 58 dX10_shareByLeaf_57 rfl rfl ?_
        refine z_iconst 59 (v := nI 2) dX10_shareByLeaf_58 rfl rfl ?_
        refine z_cVI2 62 (tX10_leafTells (by omega) (by omega)) kX10_leafTells dX10_shareByLeaf_59 rfl lX10_304 (by first | assumption | rfl) (Nat.le_of_ble_eq_true rfl) ?_
        rintro _ _ ⟨e1, e2⟩
        replace e1 := e1.symm
        replace e2 := e2.symm
        subst e1
        subst e2
        rw [show gi τ1 124 (12 * e + 2) = nI (sLf S e).2.2.1 from (hX1.2.2.2.2.1.2 e he).2.2.1]
        refine z_ialdn 63 dX10_shareByLeaf_62 rfl (by first | assumption | rfl) (by omega) ?_
        rw [hS1 _ hww]
        refine z_ri dX10_shareByLeaf_63 rfl ?_
        exact ⟨rfl, hF.tr hF1 (by intros; omega) (by intros; omega), hX1⟩
      · (try rw [nI_leI (by omega) (by omega)] at h17)
        omega
    · have hil : i < (sLf S e).2.2.2.1 := by omega
      have hg7 : gi τ 124 (12 * e + (6 + i)) = nI ((sLf S e).2.2.2.2.1 i) := k7 i hil
      refine z_iload_n 13 dX10_shareByLeaf_12 rfl rfl ?_
      refine z_aload_n 14 dX10_shareByLeaf_13 rfl rfl ?_
      refine gX10_178 17 rfl dX10_shareByLeaf_14 rfl ?_
      rw [hs]
      refine z_icmp_ge 41 20 dX10_shareByLeaf_17 (by decide) rfl (fun h17 => ?_) (fun h17 => ?_)
      · (try rw [nI_leI (by omega) (by omega)] at h17)
        omega
      · (try rw [nI_leI (by omega) (by omega)] at h17)
        refine z_aload_n 21 dX10_shareByLeaf_20 rfl rfl ?_
        refine gX10_44 24 rfl dX10_shareByLeaf_21 rfl ?_
        refine z_iload_n 25 dX10_shareByLeaf_24 rfl rfl ?_
        refine z_aload_n 26 dX10_shareByLeaf_25 rfl rfl ?_
        refine z_iload_n 27 dX10_shareByLeaf_26 rfl rfl ?_
        refine z_bipush 29 (v := nI 6) dX10_shareByLeaf_27 rfl rfl ?_
        refine z_iload_n 30 dX10_shareByLeaf_29 rfl rfl ?_
        refine z_iadd 31 dX10_shareByLeaf_30 rfl ?_
        rw [nI_add]
        refine z_cVI2 34 (tX10_leafTells (by omega) (by omega)) kX10_leafTells dX10_shareByLeaf_31 rfl lX10_304 (by first | assumption | rfl) (Nat.le_of_ble_eq_true rfl) ?_
        rintro _ _ ⟨e1, e2⟩
        replace e1 := e1.symm
        replace e2 := e2.symm
        subst e1
        subst e2
        rw [hg7]
        refine z_iastn 35 dX10_shareByLeaf_34 rfl (by first | assumption | rfl) (by omega) ?_
        refine zs_iinc_3_4_1 38 rfl dX10_shareByLeaf_35 rfl rfl ?_
        rw [nI_add]
        refine z_goto 12 dX10_shareByLeaf_38 rfl ?_
        have hf1 : Fr (fun a j => a = 113) τ (si τ 113 i (nI ((sLf S e).2.2.2.2.1 i))) := Fr.rf.si _ rfl
        refine ih (i + 1) (by omega) (by omega) _ (hF.tr hf1 (fun _ _ h => h) (by intros; omega)) (hR.scr hW (hf1.mono (by unfold mS; intros; omega))) ((gi_s2 _ _ (by omega)).trans hs) (fun j hj => ?_)
        rw [gi_si]
        by_cases hji : j = i
        · rw [if_pos ⟨rfl, hji⟩, hji]
        · rw [if_neg (fun z => hji z.2)]; exact hv j (by omega)
  refine z_aload_n 1 dX10_shareByLeaf_0 rfl rfl ?_
  refine z_aload_n 2 dX10_shareByLeaf_1 rfl rfl ?_
  refine z_iload_n 3 dX10_shareByLeaf_2 rfl rfl ?_
  refine z_iconst 4 (v := nI 5) dX10_shareByLeaf_3 rfl rfl ?_
  refine z_cVI2 7 (tX10_leafTells (by omega) (by omega)) kX10_leafTells dX10_shareByLeaf_4 rfl lX10_304 (by first | assumption | rfl) (Nat.le_of_ble_eq_true rfl) ?_
  rintro _ _ ⟨e1, e2⟩
  replace e1 := e1.symm
  replace e2 := e2.symm
  subst e1
  subst e2
  rw [hn]
  refine pX10_178 10 rfl dX10_shareByLeaf_7 rfl ?_
  refine z_iconst 11 (v := nI 0) dX10_shareByLeaf_10 rfl rfl ?_
  refine zs_istore_n_3_4 12 rfl dX10_shareByLeaf_11 rfl rfl ?_
  have hf1 : Fr (fun a j => a = 102 ∧ j = 18) σ (si σ 102 18 (nI (sLf S e).2.2.2.1)) := Fr.rf.si _ ⟨rfl, rfl⟩
  exact loop 0 (Nat.zero_le _) _ (hf1.mono (by intros; omega)) (hX.scr hW (hf1.mono (by unfold mS; intros; omega))) (gi_s1 _ _ _ _) (fun j hj => absurd hj (Nat.not_lt_zero j))
