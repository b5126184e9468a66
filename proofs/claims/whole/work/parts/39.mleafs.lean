/-! leaf, guessed of the reference -/
def MLe (σ : zM) (e : Nat) (f : sLeaf) : Prop := gi σ 124 (12 * e + 0) = bI f.1 ∧ gi σ 124 (12 * e + 1) = nI f.2.1 ∧ gi σ 124 (12 * e + 2) = nI f.2.2.1 ∧ gi σ 124 (12 * e + 3) = nI (pset f.2.2.2.2.1 f.2.2.2.1) ∧ gi σ 124 (12 * e + 4) = byI f.2.2.2.2.2 ∧ gi σ 124 (12 * e + 5) = nI f.2.2.2.1 ∧ ∀ i, i < f.2.2.2.1 → gi σ 124 (12 * e + (6 + i)) = nI (f.2.2.2.2.1 i)
theorem MLe.fr {P : Nat → Nat → Prop} {σ τ : zM} {e : Nat} {f : sLeaf} (h : MLe σ e f) (h6 : f.2.2.2.1 ≤ 6) (hF : Fr P σ τ) (hP : ∀ a j, P a j → ¬ (a = 124 ∧ 12 * e ≤ j ∧ j < 12 * e + 12)) : MLe τ e f := by
  obtain ⟨a1, a2, a3, a4, a5, a6, a7⟩ := h
  exact ⟨(hF.gi (fun q => hP _ _ q (by omega))).trans a1, (hF.gi (fun q => hP _ _ q (by omega))).trans a2, (hF.gi (fun q => hP _ _ q (by omega))).trans a3, (hF.gi (fun q => hP _ _ q (by omega))).trans a4, (hF.gi (fun q => hP _ _ q (by omega))).trans a5, (hF.gi (fun q => hP _ _ q (by omega))).trans a6, fun w hw => (hF.gi (fun q => hP _ _ q (by omega))).trans (a7 w hw)⟩
set_option maxRecDepth 20000 in
theorem tX10_newLeaf {E : zE} {d : Nat} {σ : zM} {n p w r : Nat} {k : Bool} {o : Option Nat} {q : Nat × (Nat → Int32)} {g : Nat → Nat} (hn : gi σ 102 35 = nI n) (h12 : n < 12) (hr : r < 6) (hS : mSh σ 104 105 r 40 (some q)) (hpt : PtsOK q.1 g) (hg : ∀ i, i < q.1 → q.2 i = nI (g i)) : Ret E mX10_newLeaf (d + 2) [zr E 102, .int (bI k), .int (nI p), .int (nI w), .int (nI r), .int (byI o)] σ (qI fun x τ => x = nI n ∧ Fr (fun x y => x = 102 ∧ y = 35 ∨ x = 124 ∧ 12 * n ≤ y ∧ y < 12 * n + 12) σ τ ∧ gi τ 102 35 = nI (n + 1) ∧ MLe τ n (k, p, w, q.1, g, o)) := by
  have q6 := hpt.2.1
  have hs : gi σ 104 r = nI q.1 := hS.2.1
  refine Ret.of [some (zr E 102), some (.int (bI k)), some (.int (nI p)), some (.int (nI w)), some (.int (nI r)), some (.int (byI o)), none, none] (by decide +kernel) (Nat.le_of_ble_eq_true rfl) rfl ?_
  have loop : ∀ i, i ≤ q.1 → ∀ τ, Fr (fun x y => x = 124 ∧ 12 * n ≤ y ∧ y < 12 * n + 12) σ τ → gi τ 124 (12 * n + 0) = bI k → gi τ 124 (12 * n + 1) = nI p → gi τ 124 (12 * n + 2) = nI w → gi τ 124 (12 * n + 3) = nI (pset g q.1) → gi τ 124 (12 * n + 4) = byI o → gi τ 124 (12 * n + 5) = nI q.1 → (∀ j, j < i → gi τ 124 (12 * n + (6 + j)) = nI (g j)) → At E mX10_newLeaf (d + 2) (qI fun x τ => x = nI n ∧ Fr (fun x y => x = 102 ∧ y = 35 ∨ x = 124 ∧ 12 * n ≤ y ∧ y < 12 * n + 12) σ τ ∧ gi τ 102 35 = nI (n + 1) ∧ MLe τ n (k, p, w, q.1, g, o)) 82 [some (zr E 102), some (.int (bI k)), some (.int (nI p)), some (.int (nI w)), some (.int (nI r)), some (.int (byI o)), some (.int (nI (12 * n))), some (.int (nI i))] [] τ := by
    refine z_up (fun i hi ih τ hF b0 b1 b2 b3 b4 b5 hv => ?_)
    have hst : gi τ 104 r = nI q.1 := (hF.gi (by omega)).trans hs
    have hnt : gi τ 102 35 = nI n := (hF.gi (by omega)).trans hn
    by_cases hie : i = q.1
    · subst hie
      refine z_iload 84 dX10_newLeaf_82 rfl rfl ?_
      refine z_aload_n 85 dX10_newLeaf_84 rfl rfl ?_
      refine gX10_17 88 rfl dX10_newLeaf_85 rfl ?_
      refine z_iload 90 dX10_newLeaf_88 rfl rfl ?_
      refine z_ialdn 91 dX10_newLeaf_90 rfl (by first | assumption | rfl) (by omega) ?_
      rw [hst]
      refine z_icmp_ge 121 94 dX10_newLeaf_91 (by decide) rfl (fun h91 => ?_) (fun h91 => ?_)
      · (try rw [nI_leI (by omega) (by omega)] at h91)
        refine z_aload_n 122 dX10_newLeaf_121 rfl rfl ?_
        refine z_dup 123 dX10_newLeaf_122 rfl rfl ?_
        refine gX10_141 126 rfl dX10_newLeaf_123 rfl ?_
        rw [hnt]
        refine z_iconst 127 (v := nI 1) dX10_newLeaf_126 rfl rfl ?_
        refine z_iadd 128 dX10_newLeaf_127 rfl ?_
        rw [nI_add]
        refine pX10_141 131 rfl dX10_newLeaf_128 rfl ?_
        refine z_aload_n 132 dX10_newLeaf_131 rfl rfl ?_
        refine gX10_141 135 rfl dX10_newLeaf_132 rfl ?_
        rw [gi_s1]
        refine z_iconst 136 (v := nI 1) dX10_newLeaf_135 rfl rfl ?_
        refine z_isub 137 dX10_newLeaf_136 rfl ?_
        rw [show nI (n + 1) - nI 1 = nI n from nI_pred _]
        refine z_ri dX10_newLeaf_137 rfl ?_
        have hf2 : Fr (fun x y => x = 102 ∧ y = 35) τ (si τ 102 35 (nI (n + 1))) := Fr.rf.si _ ⟨rfl, rfl⟩
        refine ⟨rfl, hF.tr hf2 (by intros; omega) (by intros; omega), gi_s1 _ _ _ _, (hf2.gi (by omega)).trans b0, (hf2.gi (by omega)).trans b1, (hf2.gi (by omega)).trans b2, (hf2.gi (by omega)).trans b3, (hf2.gi (by omega)).trans b4, (hf2.gi (by omega)).trans b5, fun j hj => (hf2.gi (by omega)).trans (hv j hj)⟩
      · (try rw [nI_leI (by omega) (by omega)] at h91)
        omega
    · have hil : i < q.1 := by omega
      have hgv : gi τ 105 (40 * r + i) = nI (g i) := (hF.gi (by omega)).trans ((hS.2.2 i hil).trans (hg i hil))
      refine z_iload 84 dX10_newLeaf_82 rfl rfl ?_
      refine z_aload_n 85 dX10_newLeaf_84 rfl rfl ?_
      refine gX10_17 88 rfl dX10_newLeaf_85 rfl ?_
      refine z_iload 90 dX10_newLeaf_88 rfl rfl ?_
      refine z_ialdn 91 dX10_newLeaf_90 rfl (by first | assumption | rfl) (by omega) ?_
      rw [hst]
      refine z_icmp_ge 121 94 dX10_newLeaf_91 (by decide) rfl (fun h91 => ?_) (fun h91 => ?_)
      · (try rw [nI_leI (by omega) (by omega)] at h91)
        omega
      · (try rw [nI_leI (by omega) (by omega)] at h91)
        refine z_aload_n 95 dX10_newLeaf_94 rfl rfl ?_
        refine gX10_78 98 rfl dX10_newLeaf_95 rfl ?_
        refine z_iload 100 dX10_newLeaf_98 rfl rfl ?_
        refine z_bipush 102 (v := nI 6) dX10_newLeaf_100 rfl rfl ?_
        refine z_iadd 103 dX10_newLeaf_102 rfl ?_
        rw [nI_add]
        refine z_iload 105 dX10_newLeaf_103 rfl rfl ?_
        refine z_iadd 106 dX10_newLeaf_105 rfl ?_
        rw [nI_add]
        refine z_aload_n 107 dX10_newLeaf_106 rfl rfl ?_
        refine z_iload 109 dX10_newLeaf_107 rfl rfl ?_
        refine z_iload 111 dX10_newLeaf_109 rfl rfl ?_
        refine z_cVI2 114 (tX10_rowAt hr (by omega)) kX10_rowAt dX10_newLeaf_111 rfl lX10_113 (by first | assumption | rfl) (Nat.le_of_ble_eq_true rfl) ?_
        rintro _ _ ⟨e1, e2⟩
        replace e1 := e1.symm
        replace e2 := e2.symm
        subst e1
        subst e2
        rw [hgv]
        refine z_iastn 115 dX10_newLeaf_114 rfl (by first | assumption | rfl) (by omega) ?_
        refine zs_iinc_7_8_1 118 rfl dX10_newLeaf_115 rfl rfl ?_
        rw [nI_add]
        refine z_goto 82 dX10_newLeaf_118 rfl ?_
        refine ih (i + 1) (by omega) (by omega) _ (hF.si _ (by omega)) ((gi_s2 _ _ (by omega)).trans b0) ((gi_s2 _ _ (by omega)).trans b1) ((gi_s2 _ _ (by omega)).trans b2) ((gi_s2 _ _ (by omega)).trans b3) ((gi_s2 _ _ (by omega)).trans b4) ((gi_s2 _ _ (by omega)).trans b5) (fun j hj => ?_)
        rw [gi_si]
        by_cases hji : j = i
        · rw [if_pos ⟨rfl, by omega⟩, hji]
        · rw [if_neg (by omega)]; exact hv j (by omega)
  refine z_bipush 2 (v := nI 12) dX10_newLeaf_0 rfl rfl ?_
  refine z_aload_n 3 dX10_newLeaf_2 rfl rfl ?_
  refine gX10_141 6 rfl dX10_newLeaf_3 rfl ?_
  rw [hn]
  refine z_imul 7 dX10_newLeaf_6 rfl ?_
  rw [nI_mul]
  refine zs_istore_6_8 9 rfl dX10_newLeaf_7 rfl rfl ?_
  refine z_aload_n 10 dX10_newLeaf_9 rfl rfl ?_
  refine gX10_78 13 rfl dX10_newLeaf_10 rfl ?_
  refine z_iload 15 dX10_newLeaf_13 rfl rfl ?_
  refine z_iload_n 16 dX10_newLeaf_15 rfl rfl ?_
  refine z_iastn 17 dX10_newLeaf_16 rfl (by first | assumption | rfl) (by omega) ?_
  refine z_aload_n 18 dX10_newLeaf_17 rfl rfl ?_
  refine gX10_78 21 rfl dX10_newLeaf_18 rfl ?_
  refine z_iload 23 dX10_newLeaf_21 rfl rfl ?_
  refine z_iconst 24 (v := nI 1) dX10_newLeaf_23 rfl rfl ?_
  refine z_iadd 25 dX10_newLeaf_24 rfl ?_
  rw [nI_add]
  refine z_iload_n 26 dX10_newLeaf_25 rfl rfl ?_
  refine z_iastn 27 dX10_newLeaf_26 rfl (by first | assumption | rfl) (by omega) ?_
  refine z_aload_n 28 dX10_newLeaf_27 rfl rfl ?_
  refine gX10_78 31 rfl dX10_newLeaf_28 rfl ?_
  refine z_iload 33 dX10_newLeaf_31 rfl rfl ?_
  refine z_iconst 34 (v := nI 2) dX10_newLeaf_33 rfl rfl ?_
  refine z_iadd 35 dX10_newLeaf_34 rfl ?_
  rw [nI_add]
  refine z_iload_n 36 dX10_newLeaf_35 rfl rfl ?_
  refine z_iastn 37 dX10_newLeaf_36 rfl (by first | assumption | rfl) (by omega) ?_
  refine z_aload_n 38 dX10_newLeaf_37 rfl rfl ?_
  refine gX10_78 41 rfl dX10_newLeaf_38 rfl ?_
  refine z_iload 43 dX10_newLeaf_41 rfl rfl ?_
  refine z_iconst 44 (v := nI 3) dX10_newLeaf_43 rfl rfl ?_
  refine z_iadd 45 dX10_newLeaf_44 rfl ?_
  rw [nI_add]
  refine z_aload_n 46 dX10_newLeaf_45 rfl rfl ?_
  refine z_iload 48 dX10_newLeaf_46 rfl rfl ?_
  refine z_cVI1 51 (tX10_rowSet (g := g) hr (hS.fr (P := fun x y => x = 124) (((Fr.si (P := fun x y => x = 124) Fr.rf _ rfl).si _ rfl).si _ rfl) (by omega) (by intros; omega)) (fun i hi => ⟨hg i hi, (hpt.2.2 i hi).1⟩)) kX10_rowSet dX10_newLeaf_48 rfl lX10_297 (by first | assumption | rfl) (Nat.le_of_ble_eq_true rfl) ?_
  rintro _ _ ⟨e1, e2⟩
  replace e1 := e1.symm
  replace e2 := e2.symm
  subst e1
  subst e2
  refine z_iastn 52 dX10_newLeaf_51 rfl (by first | assumption | rfl) (by omega) ?_
  refine z_aload_n 53 dX10_newLeaf_52 rfl rfl ?_
  refine gX10_78 56 rfl dX10_newLeaf_53 rfl ?_
  refine z_iload 58 dX10_newLeaf_56 rfl rfl ?_
  refine z_iconst 59 (v := nI 4) dX10_newLeaf_58 rfl rfl ?_
  refine z_iadd 60 dX10_newLeaf_59 rfl ?_
  rw [nI_add]
  refine z_iload 62 dX10_newLeaf_60 rfl rfl ?_
  refine z_iastn 63 dX10_newLeaf_62 rfl (by first | assumption | rfl) (by omega) ?_
  refine z_aload_n 64 dX10_newLeaf_63 rfl rfl ?_
  refine gX10_78 67 rfl dX10_newLeaf_64 rfl ?_
  refine z_iload 69 dX10_newLeaf_67 rfl rfl ?_
  refine z_iconst 70 (v := nI 5) dX10_newLeaf_69 rfl rfl ?_
  refine z_iadd 71 dX10_newLeaf_70 rfl ?_
  rw [nI_add]
  refine z_aload_n 72 dX10_newLeaf_71 rfl rfl ?_
  refine gX10_17 75 rfl dX10_newLeaf_72 rfl ?_
  refine z_iload 77 dX10_newLeaf_75 rfl rfl ?_
  refine z_ialdn 78 dX10_newLeaf_77 rfl (by first | assumption | rfl) (by omega) ?_
  rw [gi_s2 _ _ (by omega), gi_s2 _ _ (by omega), gi_s2 _ _ (by omega), gi_s2 _ _ (by omega), gi_s2 _ _ (by omega), hs]
  refine z_iastn 79 dX10_newLeaf_78 rfl (by first | assumption | rfl) (by omega) ?_
  refine z_iconst 80 (v := nI 0) dX10_newLeaf_79 rfl rfl ?_
  refine zs_istore_7_8 82 rfl dX10_newLeaf_80 rfl rfl ?_
  refine loop 0 (Nat.zero_le _) _ ((((((Fr.rf.si _ (by omega)).si _ (by omega)).si _ (by omega)).si _ (by omega)).si _ (by omega)).si _ (by omega)) ?_ ?_ ?_ ?_ ?_ (gi_s1 _ _ _ _) (fun j hj => absurd hj (Nat.not_lt_zero j))
  · rw [gi_s2 _ _ (by omega), gi_s2 _ _ (by omega), gi_s2 _ _ (by omega), gi_s2 _ _ (by omega), gi_s2 _ _ (by omega)]; exact gi_s1 _ _ _ _
  · rw [gi_s2 _ _ (by omega), gi_s2 _ _ (by omega), gi_s2 _ _ (by omega), gi_s2 _ _ (by omega), gi_s1]
  · rw [gi_s2 _ _ (by omega), gi_s2 _ _ (by omega), gi_s2 _ _ (by omega), gi_s1]
  · rw [gi_s2 _ _ (by omega), gi_s2 _ _ (by omega), gi_s1]
  · rw [gi_s2 _ _ (by omega), gi_s1]
theorem RM.nl {S : sS} {σ τ : zM} {p w : Nat} {k : Bool} {o : Option Nat} {q : Nat × (Nat → Int32)} {g : Nat → Nat} (hW : WF S) (hX : RM S σ) (hF : Fr (fun x y => x = 102 ∧ y = 35 ∨ x = 124 ∧ 12 * sLc S ≤ y ∧ y < 12 * sLc S + 12) σ τ) (h1 : gi τ 102 35 = nI (sLc S + 1)) (hL : MLe τ (sLc S) (k, p, w, q.1, g, o)) : RM (setL S (sLc S + 1) (zu (sLf S) (sLc S) (k, p, w, q.1, g, o))) τ := by
  refine hX.L hW (hF.mono (by intros; omega)) ⟨h1, fun e he => ?_⟩
  have he : e < sLc S + 1 := he
  show MLe _ e (zu (sLf S) (sLc S) (k, p, w, q.1, g, o) e)
  unfold zu
  by_cases hee : e = sLc S
  · rw [if_pos hee, hee]; exact hL
  · rw [if_neg hee]
    exact MLe.fr (hX.2.2.2.2.1.2 e (by show e < sLc S; omega)) (hW.2.2.2 e (by omega)).2.2.2.1 hF (by intros; omega)
set_option maxRecDepth 20000 in
theorem tX10_leaf {E : zE} {d : Nat} {σ : zM} {S : sS} {p w r : Int32} (hW : WF S) (hX : RM S σ) : Ret E mX10_leaf (d + 3) [zr E 102, .int p, .int w, .int r] σ (qM σ (spLeaf S p w r)) := by
  have h8 := hW.2.1.1
  have h12 := hW.2.2.1
  have hb8 := bw_le hW (show 0 < 2 by omega)
  have hlc : gi σ 102 35 = nI (sLc S) := hX.2.2.2.2.1.1
  by_cases hA : ¬ (inN p (sPc S) ∧ inN w (sBw S 0) ∧ inN r 6)
  · refine Ret.of [some (zr E 102), some (.int p), some (.int w), some (.int r), none] (by decide +kernel) (Nat.le_of_ble_eq_true rfl) rfl ?_
    refine z_aload_n 1 dX10_leaf_0 rfl rfl ?_
    refine z_iload_n 2 dX10_leaf_1 rfl rfl ?_
    refine z_cVI1 5 (tX10_isPlayer (by assumption) (by assumption)) kX10_isPlayer dX10_leaf_2 rfl lX10_162 (by first | assumption | rfl) (Nat.le_of_ble_eq_true rfl) ?_
    rintro _ _ ⟨e1, e2⟩
    replace e1 := e1.symm
    replace e2 := e2.symm
    subst e1
    subst e2
    refine z_ifb_eq 23 8 dX10_leaf_5 (by decide) rfl (fun h5 => ?_) (fun h5 => ?_)
    · refine z_iconst 24 (v := (-1)) dX10_leaf_23 rfl rfl ?_
      refine z_ri dX10_leaf_24 rfl ?_
      exact qm0 (if_pos hA) hX Fr.rf
    · refine z_aload_n 9 dX10_leaf_8 rfl rfl ?_
      refine z_iload_n 10 dX10_leaf_9 rfl rfl ?_
      refine z_cVI1 13 (tX10_isWord (by assumption) (by assumption)) kX10_isWord dX10_leaf_10 rfl lX10_151 (by first | assumption | rfl) (Nat.le_of_ble_eq_true rfl) ?_
      rintro _ _ ⟨e1, e2⟩
      replace e1 := e1.symm
      replace e2 := e2.symm
      subst e1
      subst e2
      refine z_ifb_eq 23 16 dX10_leaf_13 (by decide) rfl (fun h13 => ?_) (fun h13 => ?_)
      · refine z_iconst 24 (v := (-1)) dX10_leaf_23 rfl rfl ?_
        refine z_ri dX10_leaf_24 rfl ?_
        exact qm0 (if_pos hA) hX Fr.rf
      · refine z_iload_n 17 dX10_leaf_16 rfl rfl ?_
        refine z_cSI1 20 (tX10_isRow) kX10_isRow dX10_leaf_17 rfl lX10_95 (Nat.le_of_ble_eq_true rfl) ?_
        rintro _ _ ⟨e1, e2⟩
        replace e1 := e1.symm
        replace e2 := e2.symm
        subst e1
        subst e2
        refine z_ifb_ne 25 23 dX10_leaf_20 (by decide) rfl (fun h20 => ?_) (fun h20 => ?_)
        · exact absurd ⟨h5, h13, h20⟩ hA
        · refine z_iconst 24 (v := (-1)) dX10_leaf_23 rfl rfl ?_
          refine z_ri dX10_leaf_24 rfl ?_
          exact qm0 (if_pos hA) hX Fr.rf
  have e0 : spLeaf S p w r = _ := if_neg hA
  have hA := Classical.not_not.mp hA
  have hA' := hA
  obtain ⟨p, hp, rfl⟩ := inN_of hA.1
  obtain ⟨w, hw, rfl⟩ := inN_of hA.2.1
  obtain ⟨r, hr, rfl⟩ := inN_of hA.2.2
  rw [zx_nI (by omega), zx_nI (by omega), zx_nI (by omega)] at e0
  have hS : mSh σ 104 105 r 40 (sR S r) := hX.1 r hr
  have hpl := sDf_lt (sR S r)
  refine Ret.of [some (zr E 102), some (.int (nI p)), some (.int (nI w)), some (.int (nI r)), none] (by decide +kernel) (Nat.le_of_ble_eq_true rfl) rfl ?_
  by_cases hD : sDf (sR S r) = 0
  · have e1 : spAdd S false p w (sR S r) none = _ := if_neg (fun z => z hD)
    rw [e1] at e0
    obtain ⟨q, hq, hpt, hqg⟩ := sDf0 hD
    have hsz : sSz (sR S r) = q.1 := by rw [hq]; rfl
    have hS' : mSh σ 104 105 r 40 (some q) := by rw [← hq]; exact hS
    by_cases hl : 12 ≤ sLc S
    · rw [if_pos hl] at e0
      refine z_aload_n 1 dX10_leaf_0 rfl rfl ?_
      refine z_iload_n 2 dX10_leaf_1 rfl rfl ?_
      refine z_cVI1 5 (tX10_isPlayer (by assumption) (by assumption)) kX10_isPlayer dX10_leaf_2 rfl lX10_162 (by first | assumption | rfl) (Nat.le_of_ble_eq_true rfl) ?_
      rintro _ _ ⟨e1, e2⟩
      replace e1 := e1.symm
      replace e2 := e2.symm
      subst e1
      subst e2
      refine z_ifb_eq 23 8 dX10_leaf_5 (by decide) rfl (fun h5 => ?_) (fun h5 => ?_)
      · exact absurd hA'.1 h5
      · refine z_aload_n 9 dX10_leaf_8 rfl rfl ?_
        refine z_iload_n 10 dX10_leaf_9 rfl rfl ?_
        refine z_cVI1 13 (tX10_isWord (by assumption) (by assumption)) kX10_isWord dX10_leaf_10 rfl lX10_151 (by first | assumption | rfl) (Nat.le_of_ble_eq_true rfl) ?_
        rintro _ _ ⟨e1, e2⟩
        replace e1 := e1.symm
        replace e2 := e2.symm
        subst e1
        subst e2
        refine z_ifb_eq 23 16 dX10_leaf_13 (by decide) rfl (fun h13 => ?_) (fun h13 => ?_)
        · exact absurd hA'.2.1 h13
        · refine z_iload_n 17 dX10_leaf_16 rfl rfl ?_
          refine z_cSI1 20 (tX10_isRow) kX10_isRow dX10_leaf_17 rfl lX10_95 (Nat.le_of_ble_eq_true rfl) ?_
          rintro _ _ ⟨e1, e2⟩
          replace e1 := e1.symm
          replace e2 := e2.symm
          subst e1
          subst e2
          refine z_ifb_ne 25 23 dX10_leaf_20 (by decide) rfl (fun h20 => ?_) (fun h20 => ?_)
          · refine z_aload_n 26 dX10_leaf_25 rfl rfl ?_
            refine z_iload_n 27 dX10_leaf_26 rfl rfl ?_
            refine z_cVI1 30 (tX10_askedDrawn hr hX) kX10_askedDrawn dX10_leaf_27 rfl lX10_212 (by first | assumption | rfl) (Nat.le_of_ble_eq_true rfl) ?_
            rintro _ _ ⟨e2, e3⟩
            rw [if_pos hD] at e2 e3
            replace e2 := e2.symm
            replace e3 := e3.symm
            subst e2
            subst e3
            refine zs_istore_4_5 32 rfl dX10_leaf_30 rfl rfl ?_
            refine z_iload 34 dX10_leaf_32 rfl rfl ?_
            refine z_if_ge 40 37 dX10_leaf_34 (by decide) rfl (fun h34 => ?_) (fun h34 => ?_)
            · refine z_aload_n 41 dX10_leaf_40 rfl rfl ?_
              refine gX10_141 44 rfl dX10_leaf_41 rfl ?_
              rw [hlc]
              refine z_bipush 46 (v := nI 12) dX10_leaf_44 rfl rfl ?_
              refine z_icmp_ne 54 49 dX10_leaf_46 (by decide) rfl (fun h46 => ?_) (fun h46 => ?_)
              · (try rw [nI_eq (by omega) (by omega)] at h46)
                omega
              · (try rw [nI_eq (by omega) (by omega)] at h46)
                refine z_bipush 51 (v := (-2)) dX10_leaf_49 rfl rfl ?_
                refine z_goto 64 dX10_leaf_51 rfl ?_
                refine z_ri dX10_leaf_64 rfl ?_
                exact qm0 e0 hX Fr.rf
            · exact absurd (nI_pos' (by decide)) h34
          · exact absurd hA'.2.2 h20
    · rw [if_neg hl, hsz] at e0
      refine z_aload_n 1 dX10_leaf_0 rfl rfl ?_
      refine z_iload_n 2 dX10_leaf_1 rfl rfl ?_
      refine z_cVI1 5 (tX10_isPlayer (by assumption) (by assumption)) kX10_isPlayer dX10_leaf_2 rfl lX10_162 (by first | assumption | rfl) (Nat.le_of_ble_eq_true rfl) ?_
      rintro _ _ ⟨e1, e2⟩
      replace e1 := e1.symm
      replace e2 := e2.symm
      subst e1
      subst e2
      refine z_ifb_eq 23 8 dX10_leaf_5 (by decide) rfl (fun h5 => ?_) (fun h5 => ?_)
      · exact absurd hA'.1 h5
      · refine z_aload_n 9 dX10_leaf_8 rfl rfl ?_
        refine z_iload_n 10 dX10_leaf_9 rfl rfl ?_
        refine z_cVI1 13 (tX10_isWord (by assumption) (by assumption)) kX10_isWord dX10_leaf_10 rfl lX10_151 (by first | assumption | rfl) (Nat.le_of_ble_eq_true rfl) ?_
        rintro _ _ ⟨e1, e2⟩
        replace e1 := e1.symm
        replace e2 := e2.symm
        subst e1
        subst e2
        refine z_ifb_eq 23 16 dX10_leaf_13 (by decide) rfl (fun h13 => ?_) (fun h13 => ?_)
        · exact absurd hA'.2.1 h13
        · refine z_iload_n 17 dX10_leaf_16 rfl rfl ?_
          refine z_cSI1 20 (tX10_isRow) kX10_isRow dX10_leaf_17 rfl lX10_95 (Nat.le_of_ble_eq_true rfl) ?_
          rintro _ _ ⟨e1, e2⟩
          replace e1 := e1.symm
          replace e2 := e2.symm
          subst e1
          subst e2
          refine z_ifb_ne 25 23 dX10_leaf_20 (by decide) rfl (fun h20 => ?_) (fun h20 => ?_)
          · refine z_aload_n 26 dX10_leaf_25 rfl rfl ?_
            refine z_iload_n 27 dX10_leaf_26 rfl rfl ?_
            refine z_cVI1 30 (tX10_askedDrawn hr hX) kX10_askedDrawn dX10_leaf_27 rfl lX10_212 (by first | assumption | rfl) (Nat.le_of_ble_eq_true rfl) ?_
            rintro _ _ ⟨e2, e3⟩
            rw [if_pos hD] at e2 e3
            replace e2 := e2.symm
            replace e3 := e3.symm
            subst e2
            subst e3
            refine zs_istore_4_5 32 rfl dX10_leaf_30 rfl rfl ?_
            refine z_iload 34 dX10_leaf_32 rfl rfl ?_
            refine z_if_ge 40 37 dX10_leaf_34 (by decide) rfl (fun h34 => ?_) (fun h34 => ?_)
            · refine z_aload_n 41 dX10_leaf_40 rfl rfl ?_
              refine gX10_141 44 rfl dX10_leaf_41 rfl ?_
              rw [hlc]
              refine z_bipush 46 (v := nI 12) dX10_leaf_44 rfl rfl ?_
              refine z_icmp_ne 54 49 dX10_leaf_46 (by decide) rfl (fun h46 => ?_) (fun h46 => ?_)
              · (try rw [nI_eq (by omega) (by omega)] at h46)
                refine z_aload_n 55 dX10_leaf_54 rfl rfl ?_
                refine z_iconst 56 (v := nI 0) dX10_leaf_55 rfl rfl ?_
                refine z_iload_n 57 dX10_leaf_56 rfl rfl ?_
                refine z_iload_n 58 dX10_leaf_57 rfl rfl ?_
                refine z_iload_n 59 dX10_leaf_58 rfl rfl ?_
                refine z_bipush 61 (v := (-9)) dX10_leaf_59 rfl rfl ?_
                refine z_cVI5 64 (tX10_newLeaf (k := false) (o := none) (g := gOf (sR S r)) hlc (by omega) hr hS' hpt hqg) kX10_newLeaf dX10_leaf_61 rfl lX10_300 (by first | assumption | rfl) (Nat.le_of_ble_eq_true rfl) ?_
                rintro _ τ1 ⟨e4, hF1, h1, hL1⟩
                subst e4
                refine z_ri dX10_leaf_64 rfl ?_
                exact qm0 e0 (hX.nl hW hF1 h1 hL1) (hF1.mono (by intros; omega))
              · (try rw [nI_eq (by omega) (by omega)] at h46)
                omega
            · exact absurd (nI_pos' (by decide)) h34
          · exact absurd hA'.2.2 h20
  · have e1 : spAdd S false p w (sR S r) none = _ := if_pos hD
    rw [e1] at e0
    refine z_aload_n 1 dX10_leaf_0 rfl rfl ?_
    refine z_iload_n 2 dX10_leaf_1 rfl rfl ?_
    refine z_cVI1 5 (tX10_isPlayer (by assumption) (by assumption)) kX10_isPlayer dX10_leaf_2 rfl lX10_162 (by first | assumption | rfl) (Nat.le_of_ble_eq_true rfl) ?_
    rintro _ _ ⟨e1, e2⟩
    replace e1 := e1.symm
    replace e2 := e2.symm
    subst e1
    subst e2
    refine z_ifb_eq 23 8 dX10_leaf_5 (by decide) rfl (fun h5 => ?_) (fun h5 => ?_)
    · exact absurd hA'.1 h5
    · refine z_aload_n 9 dX10_leaf_8 rfl rfl ?_
      refine z_iload_n 10 dX10_leaf_9 rfl rfl ?_
      refine z_cVI1 13 (tX10_isWord (by assumption) (by assumption)) kX10_isWord dX10_leaf_10 rfl lX10_151 (by first | assumption | rfl) (Nat.le_of_ble_eq_true rfl) ?_
      rintro _ _ ⟨e1, e2⟩
      replace e1 := e1.symm
      replace e2 := e2.symm
      subst e1
      subst e2
      refine z_ifb_eq 23 16 dX10_leaf_13 (by decide) rfl (fun h13 => ?_) (fun h13 => ?_)
      · exact absurd hA'.2.1 h13
      · refine z_iload_n 17 dX10_leaf_16 rfl rfl ?_
        refine z_cSI1 20 (tX10_isRow) kX10_isRow dX10_leaf_17 rfl lX10_95 (Nat.le_of_ble_eq_true rfl) ?_
        rintro _ _ ⟨e1, e2⟩
        replace e1 := e1.symm
        replace e2 := e2.symm
        subst e1
        subst e2
        refine z_ifb_ne 25 23 dX10_leaf_20 (by decide) rfl (fun h20 => ?_) (fun h20 => ?_)
        · refine z_aload_n 26 dX10_leaf_25 rfl rfl ?_
          refine z_iload_n 27 dX10_leaf_26 rfl rfl ?_
          refine z_cVI1 30 (tX10_askedDrawn hr hX) kX10_askedDrawn dX10_leaf_27 rfl lX10_212 (by first | assumption | rfl) (Nat.le_of_ble_eq_true rfl) ?_
          rintro _ _ ⟨e2, e3⟩
          rw [if_neg hD] at e2 e3
          replace e2 := e2.symm
          replace e3 := e3.symm
          subst e2
          subst e3
          refine zs_istore_4_5 32 rfl dX10_leaf_30 rfl rfl ?_
          refine z_iload 34 dX10_leaf_32 rfl rfl ?_
          refine z_if_ge 40 37 dX10_leaf_34 (by decide) rfl (fun h34 => ?_) (fun h34 => ?_)
          · exact absurd h34 (by decide)
          · refine z_iload 39 dX10_leaf_37 rfl rfl ?_
            refine z_ri dX10_leaf_39 rfl ?_
            exact qmf hW e0 hpl hX Fr.rf
        · exact absurd hA'.2.2 h20
set_option maxRecDepth 20000 in
theorem tX10_guessed {E : zE} {d : Nat} {σ : zM} {S : sS} {p r v w : Int32} (hW : WF S) (hX : RM S σ) : Ret E mX10_guessed (d + 3) [zr E 102, .int p, .int r, .int v, .int w] σ (qM σ (spGuessed S p r v w)) := by
  have h8 := hW.2.1.1
  have h12 := hW.2.2.1
  have hb8 := bw_le hW (show 0 < 2 by omega)
  have hlc : gi σ 102 35 = nI (sLc S) := hX.2.2.2.2.1.1
  by_cases hA : ¬ (inN p (sPc S) ∧ inN r 6 ∧ (v = -9 ∨ inN v (sPc S)) ∧ inN w (sBw S 0))
  · refine Ret.of [some (zr E 102), some (.int p), some (.int r), some (.int v), some (.int w), none] (by decide +kernel) (Nat.le_of_ble_eq_true rfl) rfl ?_
    refine z_aload_n 1 dX10_guessed_0 rfl rfl ?_
    refine z_iload_n 2 dX10_guessed_1 rfl rfl ?_
    refine z_cVI1 5 (tX10_isPlayer (by assumption) (by assumption)) kX10_isPlayer dX10_guessed_2 rfl lX10_162 (by first | assumption | rfl) (Nat.le_of_ble_eq_true rfl) ?_
    rintro _ _ ⟨e1, e2⟩
    replace e1 := e1.symm
    replace e2 := e2.symm
    subst e1
    subst e2
    refine z_ifb_eq 32 8 dX10_guessed_5 (by decide) rfl (fun h5 => ?_) (fun h5 => ?_)
    · refine z_iconst 33 (v := (-1)) dX10_guessed_32 rfl rfl ?_
      refine z_ri dX10_guessed_33 rfl ?_
      exact qm0 (if_pos hA) hX Fr.rf
    · refine z_iload_n 9 dX10_guessed_8 rfl rfl ?_
      refine z_cSI1 12 (tX10_isRow) kX10_isRow dX10_guessed_9 rfl lX10_95 (Nat.le_of_ble_eq_true rfl) ?_
      rintro _ _ ⟨e1, e2⟩
      replace e1 := e1.symm
      replace e2 := e2.symm
      subst e1
      subst e2
      refine z_ifb_eq 32 15 dX10_guessed_12 (by decide) rfl (fun h12 => ?_) (fun h12 => ?_)
      · refine z_iconst 33 (v := (-1)) dX10_guessed_32 rfl rfl ?_
        refine z_ri dX10_guessed_33 rfl ?_
        exact qm0 (if_pos hA) hX Fr.rf
      · refine z_aload_n 16 dX10_guessed_15 rfl rfl ?_
        refine z_iload_n 17 dX10_guessed_16 rfl rfl ?_
        refine z_cVI1 20 (tX10_isBy (by assumption) (by assumption)) kX10_isBy dX10_guessed_17 rfl lX10_209 (by first | assumption | rfl) (Nat.le_of_ble_eq_true rfl) ?_
        rintro _ _ ⟨e1, e2⟩
        replace e1 := e1.symm
        replace e2 := e2.symm
        subst e1
        subst e2
        refine z_ifb_eq 32 23 dX10_guessed_20 (by decide) rfl (fun h20 => ?_) (fun h20 => ?_)
        · refine z_iconst 33 (v := (-1)) dX10_guessed_32 rfl rfl ?_
          refine z_ri dX10_guessed_33 rfl ?_
          exact qm0 (if_pos hA) hX Fr.rf
        · refine z_aload_n 24 dX10_guessed_23 rfl rfl ?_
          refine z_iload 26 dX10_guessed_24 rfl rfl ?_
          refine z_cVI1 29 (tX10_isWord (by assumption) (by assumption)) kX10_isWord dX10_guessed_26 rfl lX10_151 (by first | assumption | rfl) (Nat.le_of_ble_eq_true rfl) ?_
          rintro _ _ ⟨e1, e2⟩
          replace e1 := e1.symm
          replace e2 := e2.symm
          subst e1
          subst e2
          refine z_ifb_ne 34 32 dX10_guessed_29 (by decide) rfl (fun h29 => ?_) (fun h29 => ?_)
          · exact absurd ⟨h5, h12, h20, h29⟩ hA
          · refine z_iconst 33 (v := (-1)) dX10_guessed_32 rfl rfl ?_
            refine z_ri dX10_guessed_33 rfl ?_
            exact qm0 (if_pos hA) hX Fr.rf
  have e0 : spGuessed S p r v w = _ := if_neg hA
  have hA := Classical.not_not.mp hA
  have hA' := hA
  have hv := byO_byI hA.2.2.1 h8
  obtain ⟨o, ho⟩ : ∃ o, o = byO v := ⟨_, rfl⟩
  rw [← ho] at hv e0
  obtain ⟨p, hp, rfl⟩ := inN_of hA.1
  obtain ⟨r, hr, rfl⟩ := inN_of hA.2.1
  obtain ⟨w, hw, rfl⟩ := inN_of hA.2.2.2
  rw [zx_nI (by omega), zx_nI (by omega), zx_nI (by omega)] at e0
  have hS : mSh σ 104 105 r 40 (sR S r) := hX.1 r hr
  have hpl := sDf_lt (sR S r)
  refine Ret.of [some (zr E 102), some (.int (nI p)), some (.int (nI r)), some (.int v), some (.int (nI w)), none] (by decide +kernel) (Nat.le_of_ble_eq_true rfl) rfl ?_
  by_cases hD : sDf (sR S r) = 0
  · have e1 : spAdd S true p w (sR S r) o = _ := if_neg (fun z => z hD)
    rw [e1] at e0
    obtain ⟨q, hq, hpt, hqg⟩ := sDf0 hD
    have hsz : sSz (sR S r) = q.1 := by rw [hq]; rfl
    have hS' : mSh σ 104 105 r 40 (some q) := by rw [← hq]; exact hS
    by_cases hl : 12 ≤ sLc S
    · rw [if_pos hl] at e0
      refine z_aload_n 1 dX10_guessed_0 rfl rfl ?_
      refine z_iload_n 2 dX10_guessed_1 rfl rfl ?_
      refine z_cVI1 5 (tX10_isPlayer (by assumption) (by assumption)) kX10_isPlayer dX10_guessed_2 rfl lX10_162 (by first | assumption | rfl) (Nat.le_of_ble_eq_true rfl) ?_
      rintro _ _ ⟨e1, e2⟩
      replace e1 := e1.symm
      replace e2 := e2.symm
      subst e1
      subst e2
      refine z_ifb_eq 32 8 dX10_guessed_5 (by decide) rfl (fun h5 => ?_) (fun h5 => ?_)
      · exact absurd hA'.1 h5
      · refine z_iload_n 9 dX10_guessed_8 rfl rfl ?_
        refine z_cSI1 12 (tX10_isRow) kX10_isRow dX10_guessed_9 rfl lX10_95 (Nat.le_of_ble_eq_true rfl) ?_
        rintro _ _ ⟨e1, e2⟩
        replace e1 := e1.symm
        replace e2 := e2.symm
        subst e1
        subst e2
        refine z_ifb_eq 32 15 dX10_guessed_12 (by decide) rfl (fun h12 => ?_) (fun h12 => ?_)
        · exact absurd hA'.2.1 h12
        · refine z_aload_n 16 dX10_guessed_15 rfl rfl ?_
          refine z_iload_n 17 dX10_guessed_16 rfl rfl ?_
          refine z_cVI1 20 (tX10_isBy (by assumption) (by assumption)) kX10_isBy dX10_guessed_17 rfl lX10_209 (by first | assumption | rfl) (Nat.le_of_ble_eq_true rfl) ?_
          rintro _ _ ⟨e1, e2⟩
          replace e1 := e1.symm
          replace e2 := e2.symm
          subst e1
          subst e2
          refine z_ifb_eq 32 23 dX10_guessed_20 (by decide) rfl (fun h20 => ?_) (fun h20 => ?_)
          · exact absurd hA'.2.2.1 h20
          · refine z_aload_n 24 dX10_guessed_23 rfl rfl ?_
            refine z_iload 26 dX10_guessed_24 rfl rfl ?_
            refine z_cVI1 29 (tX10_isWord (by assumption) (by assumption)) kX10_isWord dX10_guessed_26 rfl lX10_151 (by first | assumption | rfl) (Nat.le_of_ble_eq_true rfl) ?_
            rintro _ _ ⟨e1, e2⟩
            replace e1 := e1.symm
            replace e2 := e2.symm
            subst e1
            subst e2
            refine z_ifb_ne 34 32 dX10_guessed_29 (by decide) rfl (fun h29 => ?_) (fun h29 => ?_)
            · refine z_aload_n 35 dX10_guessed_34 rfl rfl ?_
              refine z_iload_n 36 dX10_guessed_35 rfl rfl ?_
              refine z_cVI1 39 (tX10_askedDrawn hr hX) kX10_askedDrawn dX10_guessed_36 rfl lX10_212 (by first | assumption | rfl) (Nat.le_of_ble_eq_true rfl) ?_
              rintro _ _ ⟨e2, e3⟩
              rw [if_pos hD] at e2 e3
              replace e2 := e2.symm
              replace e3 := e3.symm
              subst e2
              subst e3
              refine zs_istore_5_6 41 rfl dX10_guessed_39 rfl rfl ?_
              refine z_iload 43 dX10_guessed_41 rfl rfl ?_
              refine z_if_ge 49 46 dX10_guessed_43 (by decide) rfl (fun h43 => ?_) (fun h43 => ?_)
              · refine z_aload_n 50 dX10_guessed_49 rfl rfl ?_
                refine gX10_141 53 rfl dX10_guessed_50 rfl ?_
                rw [hlc]
                refine z_bipush 55 (v := nI 12) dX10_guessed_53 rfl rfl ?_
                refine z_icmp_ne 63 58 dX10_guessed_55 (by decide) rfl (fun h55 => ?_) (fun h55 => ?_)
                · (try rw [nI_eq (by omega) (by omega)] at h55)
                  omega
                · (try rw [nI_eq (by omega) (by omega)] at h55)
                  refine z_bipush 60 (v := (-2)) dX10_guessed_58 rfl rfl ?_
                  refine z_goto 73 dX10_guessed_60 rfl ?_
                  refine z_ri dX10_guessed_73 rfl ?_
                  exact qm0 e0 hX Fr.rf
              · exact absurd (nI_pos' (by decide)) h43
            · exact absurd hA'.2.2.2 h29
    · rw [if_neg hl, hsz] at e0
      refine z_aload_n 1 dX10_guessed_0 rfl rfl ?_
      refine z_iload_n 2 dX10_guessed_1 rfl rfl ?_
      refine z_cVI1 5 (tX10_isPlayer (by assumption) (by assumption)) kX10_isPlayer dX10_guessed_2 rfl lX10_162 (by first | assumption | rfl) (Nat.le_of_ble_eq_true rfl) ?_
      rintro _ _ ⟨e1, e2⟩
      replace e1 := e1.symm
      replace e2 := e2.symm
      subst e1
      subst e2
      refine z_ifb_eq 32 8 dX10_guessed_5 (by decide) rfl (fun h5 => ?_) (fun h5 => ?_)
      · exact absurd hA'.1 h5
      · refine z_iload_n 9 dX10_guessed_8 rfl rfl ?_
        refine z_cSI1 12 (tX10_isRow) kX10_isRow dX10_guessed_9 rfl lX10_95 (Nat.le_of_ble_eq_true rfl) ?_
        rintro _ _ ⟨e1, e2⟩
        replace e1 := e1.symm
        replace e2 := e2.symm
        subst e1
        subst e2
        refine z_ifb_eq 32 15 dX10_guessed_12 (by decide) rfl (fun h12 => ?_) (fun h12 => ?_)
        · exact absurd hA'.2.1 h12
        · refine z_aload_n 16 dX10_guessed_15 rfl rfl ?_
          refine z_iload_n 17 dX10_guessed_16 rfl rfl ?_
          refine z_cVI1 20 (tX10_isBy (by assumption) (by assumption)) kX10_isBy dX10_guessed_17 rfl lX10_209 (by first | assumption | rfl) (Nat.le_of_ble_eq_true rfl) ?_
          rintro _ _ ⟨e1, e2⟩
          replace e1 := e1.symm
          replace e2 := e2.symm
          subst e1
          subst e2
          refine z_ifb_eq 32 23 dX10_guessed_20 (by decide) rfl (fun h20 => ?_) (fun h20 => ?_)
          · exact absurd hA'.2.2.1 h20
          · refine z_aload_n 24 dX10_guessed_23 rfl rfl ?_
            refine z_iload 26 dX10_guessed_24 rfl rfl ?_
            refine z_cVI1 29 (tX10_isWord (by assumption) (by assumption)) kX10_isWord dX10_guessed_26 rfl lX10_151 (by first | assumption | rfl) (Nat.le_of_ble_eq_true rfl) ?_
            rintro _ _ ⟨e1, e2⟩
            replace e1 := e1.symm
            replace e2 := e2.symm
            subst e1
            subst e2
            refine z_ifb_ne 34 32 dX10_guessed_29 (by decide) rfl (fun h29 => ?_) (fun h29 => ?_)
            · refine z_aload_n 35 dX10_guessed_34 rfl rfl ?_
              refine z_iload_n 36 dX10_guessed_35 rfl rfl ?_
              refine z_cVI1 39 (tX10_askedDrawn hr hX) kX10_askedDrawn dX10_guessed_36 rfl lX10_212 (by first | assumption | rfl) (Nat.le_of_ble_eq_true rfl) ?_
              rintro _ _ ⟨e2, e3⟩
              rw [if_pos hD] at e2 e3
              replace e2 := e2.symm
              replace e3 := e3.symm
              subst e2
              subst e3
              refine zs_istore_5_6 41 rfl dX10_guessed_39 rfl rfl ?_
              refine z_iload 43 dX10_guessed_41 rfl rfl ?_
              refine z_if_ge 49 46 dX10_guessed_43 (by decide) rfl (fun h43 => ?_) (fun h43 => ?_)
              · refine z_aload_n 50 dX10_guessed_49 rfl rfl ?_
                refine gX10_141 53 rfl dX10_guessed_50 rfl ?_
                rw [hlc]
                refine z_bipush 55 (v := nI 12) dX10_guessed_53 rfl rfl ?_
                refine z_icmp_ne 63 58 dX10_guessed_55 (by decide) rfl (fun h55 => ?_) (fun h55 => ?_)
                · (try rw [nI_eq (by omega) (by omega)] at h55)
                  refine z_aload_n 64 dX10_guessed_63 rfl rfl ?_
                  refine z_iconst 65 (v := nI 1) dX10_guessed_64 rfl rfl ?_
                  refine z_iload_n 66 dX10_guessed_65 rfl rfl ?_
                  refine z_iload 68 dX10_guessed_66 rfl rfl ?_
                  refine z_iload_n 69 dX10_guessed_68 rfl rfl ?_
                  refine z_iload_n 70 dX10_guessed_69 rfl rfl ?_
                  rw [← hv]
                  refine z_cVI5 73 (tX10_newLeaf (k := true) (o := o) (g := gOf (sR S r)) hlc (by omega) hr hS' hpt hqg) kX10_newLeaf dX10_guessed_70 rfl lX10_300 (by first | assumption | rfl) (Nat.le_of_ble_eq_true rfl) ?_
                  rintro _ τ1 ⟨e4, hF1, h1, hL1⟩
                  subst e4
                  refine z_ri dX10_guessed_73 rfl ?_
                  rw [hv]
                  exact qm0 e0 (hX.nl hW hF1 h1 hL1) (hF1.mono (by intros; omega))
                · (try rw [nI_eq (by omega) (by omega)] at h55)
                  omega
              · exact absurd (nI_pos' (by decide)) h43
            · exact absurd hA'.2.2.2 h29
  · have e1 : spAdd S true p w (sR S r) o = _ := if_pos hD
    rw [e1] at e0
    refine z_aload_n 1 dX10_guessed_0 rfl rfl ?_
    refine z_iload_n 2 dX10_guessed_1 rfl rfl ?_
    refine z_cVI1 5 (tX10_isPlayer (by assumption) (by assumption)) kX10_isPlayer dX10_guessed_2 rfl lX10_162 (by first | assumption | rfl) (Nat.le_of_ble_eq_true rfl) ?_
    rintro _ _ ⟨e1, e2⟩
    replace e1 := e1.symm
    replace e2 := e2.symm
    subst e1
    subst e2
    refine z_ifb_eq 32 8 dX10_guessed_5 (by decide) rfl (fun h5 => ?_) (fun h5 => ?_)
    · exact absurd hA'.1 h5
    · refine z_iload_n 9 dX10_guessed_8 rfl rfl ?_
      refine z_cSI1 12 (tX10_isRow) kX10_isRow dX10_guessed_9 rfl lX10_95 (Nat.le_of_ble_eq_true rfl) ?_
      rintro _ _ ⟨e1, e2⟩
      replace e1 := e1.symm
      replace e2 := e2.symm
      subst e1
      subst e2
      refine z_ifb_eq 32 15 dX10_guessed_12 (by decide) rfl (fun h12 => ?_) (fun h12 => ?_)
      · exact absurd hA'.2.1 h12
      · refine z_aload_n 16 dX10_guessed_15 rfl rfl ?_
        refine z_iload_n 17 dX10_guessed_16 rfl rfl ?_
        refine z_cVI1 20 (tX10_isBy (by assumption) (by assumption)) kX10_isBy dX10_guessed_17 rfl lX10_209 (by first | assumption | rfl) (Nat.le_of_ble_eq_true rfl) ?_
        rintro _ _ ⟨e1, e2⟩
        replace e1 := e1.symm
        replace e2 := e2.symm
        subst e1
        subst e2
        refine z_ifb_eq 32 23 dX10_guessed_20 (by decide) rfl (fun h20 => ?_) (fun h20 => ?_)
        · exact absurd hA'.2.2.1 h20
        · refine z_aload_n 24 dX10_guessed_23 rfl rfl ?_
          refine z_iload 26 dX10_guessed_24 rfl rfl ?_
          refine z_cVI1 29 (tX10_isWord (by assumption) (by assumption)) kX10_isWord dX10_guessed_26 rfl lX10_151 (by first | assumption | rfl) (Nat.le_of_ble_eq_true rfl) ?_
          rintro _ _ ⟨e1, e2⟩
          replace e1 := e1.symm
          replace e2 := e2.symm
          subst e1
          subst e2
          refine z_ifb_ne 34 32 dX10_guessed_29 (by decide) rfl (fun h29 => ?_) (fun h29 => ?_)
          · refine z_aload_n 35 dX10_guessed_34 rfl rfl ?_
            refine z_iload_n 36 dX10_guessed_35 rfl rfl ?_
            refine z_cVI1 39 (tX10_askedDrawn hr hX) kX10_askedDrawn dX10_guessed_36 rfl lX10_212 (by first | assumption | rfl) (Nat.le_of_ble_eq_true rfl) ?_
            rintro _ _ ⟨e2, e3⟩
            rw [if_neg hD] at e2 e3
            replace e2 := e2.symm
            replace e3 := e3.symm
            subst e2
            subst e3
            refine zs_istore_5_6 41 rfl dX10_guessed_39 rfl rfl ?_
            refine z_iload 43 dX10_guessed_41 rfl rfl ?_
            refine z_if_ge 49 46 dX10_guessed_43 (by decide) rfl (fun h43 => ?_) (fun h43 => ?_)
            · exact absurd h43 (by decide)
            · refine z_iload 48 dX10_guessed_46 rfl rfl ?_
              refine z_ri dX10_guessed_48 rfl ?_
              exact qmf hW e0 hpl hX Fr.rf
          · exact absurd hA'.2.2.2 h29
