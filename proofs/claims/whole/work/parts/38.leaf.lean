/-! leaf, guessed -/
def XLe (σ : zM) (e : Nat) (f : sLeaf) : Prop := gi σ (64 + 3 * e) 1 = bI f.1 ∧ gi σ (64 + 3 * e) 2 = nI f.2.1 ∧ gi σ (64 + 3 * e) 3 = nI f.2.2.1 ∧ gi σ (64 + 3 * e) 4 = nI (pset f.2.2.2.2.1 f.2.2.2.1) ∧ gi σ (64 + 3 * e) 5 = byI f.2.2.2.2.2 ∧ gi σ (64 + 3 * e + 1) 1 = nI f.2.2.2.1 ∧ ∀ i, i < f.2.2.2.1 → gi σ (64 + 3 * e + 1 + 1) i = nI (f.2.2.2.2.1 i)
theorem XLe.fr {P : Nat → Nat → Prop} {σ τ : zM} {e : Nat} {f : sLeaf} (h : XLe σ e f) (hF : Fr P σ τ) (hP : ∀ a j, P a j → ¬ (64 + 3 * e ≤ a ∧ a < 64 + 3 * e + 3)) : XLe τ e f := by
  obtain ⟨a1, a2, a3, a4, a5, a6, a7⟩ := h
  exact ⟨(hF.gi (fun q => hP _ _ q (by omega))).trans a1, (hF.gi (fun q => hP _ _ q (by omega))).trans a2, (hF.gi (fun q => hP _ _ q (by omega))).trans a3, (hF.gi (fun q => hP _ _ q (by omega))).trans a4, (hF.gi (fun q => hP _ _ q (by omega))).trans a5, (hF.gi (fun q => hP _ _ q (by omega))).trans a6, fun w hw => (hF.gi (fun q => hP _ _ q (by omega))).trans (a7 w hw)⟩
set_option maxRecDepth 20000 in
theorem tX3_write {E : zE} {d : Nat} {σ : zM} {e p w r : Nat} {k : Bool} {o : Option Nat} {q : Nat × (Nat → Int32)} {g : Nat → Nat} (he : e < 12) (hr : r < 6) (hS : Sh σ (24 + 2 * r) 40 (some q)) (hpt : PtsOK q.1 g) (hg : ∀ i, i < q.1 → q.2 i = nI (g i)) : Ret E mX3_write (d + 3) [zr E (64 + 3 * e), .int (bI k), .int (nI p), .int (nI w), zr E (24 + 2 * r), .int (byI o)] σ (qV fun τ => Fr (fun x y => 64 + 3 * e ≤ x ∧ x < 64 + 3 * e + 3) σ τ ∧ XLe τ e (k, p, w, q.1, g, o)) := by
  have hk := kd_e he
  have hk1 := kd_e1 he
  have hk2 := kd_e2 he
  have hkr := kd_r hr
  have hkr1 := kd_r1 hr
  refine Ret.of [some (zr E (64 + 3 * e)), some (.int (bI k)), some (.int (nI p)), some (.int (nI w)), some (zr E (24 + 2 * r)), some (.int (byI o))] (by decide +kernel) (Nat.le_of_ble_eq_true rfl) rfl ?_
  obtain ⟨σ1, hσ1⟩ : ∃ σ1, σ1 = si (si (si σ (64 + 3 * e) 1 (bI k)) (64 + 3 * e) 2 (nI p)) (64 + 3 * e) 3 (nI w) := ⟨_, rfl⟩
  have hF0 : Fr (fun x y => 64 + 3 * e ≤ x ∧ x < 64 + 3 * e + 3) σ σ1 := by
    rw [hσ1]
    exact ((Fr.rf.si _ (by omega)).si _ (by omega)).si _ (by omega)
  have b1 : gi σ1 (64 + 3 * e) 1 = bI k := by rw [hσ1, gi_s2 _ _ (by omega), gi_s2 _ _ (by omega), gi_s1]
  have b2 : gi σ1 (64 + 3 * e) 2 = nI p := by rw [hσ1, gi_s2 _ _ (by omega), gi_s1]
  have b3 : gi σ1 (64 + 3 * e) 3 = nI w := by rw [hσ1, gi_s1]
  have hS1 : Sh σ1 (24 + 2 * r) 40 (some q) := hS.fr hF0 (by omega) (by intros; omega)
  refine z_aload_n 1 dX3_write_0 rfl rfl ?_
  refine z_iload_n 2 dX3_write_1 rfl rfl ?_
  refine pX3_16 5 rfl dX3_write_2 rfl (by first | assumption | rfl) (by first | exact Or.inl rfl | exact Or.inr rfl | exact bI_01 _ | assumption) ?_
  refine z_aload_n 6 dX3_write_5 rfl rfl ?_
  refine z_iload_n 7 dX3_write_6 rfl rfl ?_
  refine pX3_20 10 rfl dX3_write_7 rfl (by first | assumption | rfl) ?_
  refine z_aload_n 11 dX3_write_10 rfl rfl ?_
  refine z_iload_n 12 dX3_write_11 rfl rfl ?_
  refine pX3_24 15 rfl dX3_write_12 rfl (by first | assumption | rfl) ?_
  rw [← hσ1]
  refine z_aload_n 16 dX3_write_15 rfl rfl ?_
  refine gX3_10 19 rfl dX3_write_16 rfl (by first | assumption | rfl) ?_
  refine z_aload 21 dX3_write_19 rfl rfl ?_
  refine z_cVV1 24 (tX2_take (a := 64 + 3 * e + 1) (g := g) hk1 hk2 hkr hkr1 hS1 hpt.2.1 hg) kX2_take dX3_write_21 rfl lX3_27 (by first | assumption | rfl) (Nat.le_of_ble_eq_true rfl) ?_
  rintro τ1 ⟨hF1, hD1⟩
  refine z_aload_n 25 dX3_write_24 rfl rfl ?_
  refine z_aload_n 26 dX3_write_25 rfl rfl ?_
  refine gX3_10 29 rfl dX3_write_26 rfl (by first | assumption | rfl) ?_
  refine z_cVI0 32 (tX2_setG hk1 hk2 hD1 hpt.2.1 (fun i hi => (hpt.2.2 i hi).1)) kX2_set dX3_write_29 rfl lX3_31 (by first | assumption | rfl) (Nat.le_of_ble_eq_true rfl) ?_
  rintro _ _ ⟨e1, e2⟩
  replace e1 := e1.symm
  replace e2 := e2.symm
  subst e1
  subst e2
  refine pX3_35 35 rfl dX3_write_32 rfl (by first | assumption | rfl) ?_
  refine z_aload_n 36 dX3_write_35 rfl rfl ?_
  refine z_iload 38 dX3_write_36 rfl rfl ?_
  refine pX3_37 41 rfl dX3_write_38 rfl (by first | assumption | rfl) ?_
  refine z_rv dX3_write_41 rfl ?_
  refine ⟨((hF0.tr hF1 (R := fun x y => 64 + 3 * e ≤ x ∧ x < 64 + 3 * e + 3) (fun _ _ h => h) (by intros; omega)).si _ (by omega)).si _ (by omega), ?_, ?_, ?_, ?_, ?_, ?_, fun i hi => ?_⟩
  · rw [gi_s2 _ _ (by omega), gi_s2 _ _ (by omega), hF1.gi (by omega)]; exact b1
  · rw [gi_s2 _ _ (by omega), gi_s2 _ _ (by omega), hF1.gi (by omega)]; exact b2
  · rw [gi_s2 _ _ (by omega), gi_s2 _ _ (by omega), hF1.gi (by omega)]; exact b3
  · rw [gi_s2 _ _ (by omega), gi_s1]
  · rw [gi_s1]
  · rw [gi_s2 _ _ (by omega), gi_s2 _ _ (by omega)]; exact hD1.1
  · rw [gi_s2 _ _ (by omega), gi_s2 _ _ (by omega)]; exact hD1.2 i hi
def spAdd (S : sS) (k : Bool) (p w : Nat) (o : sRow) (b : Option Nat) : Int32 × sS := if ¬ sDf o = 0 then sFd S (sDf o) else if 12 ≤ sLc S then (-2, S) else (nI (sLc S), setL S (sLc S + 1) (zu (sLf S) (sLc S) (k, p, w, sSz o, gOf o, b)))
theorem WF_add {S : sS} (hW : WF S) {k : Bool} {p w : Nat} {o : sRow} {b : Option Nat} (hp : p < sPc S) (hw : w < sBw S 0) (hb : ∀ q, b = some q → q < sPc S) : WF (spAdd S k p w o b).2 := by
  unfold spAdd
  split
  · exact hW
  · rename_i hD
    split
    · exact hW
    · rename_i h12
      obtain ⟨q, hq, hpt, hqg⟩ := sDf0 (Classical.not_not.mp hD)
      have hsz : sSz o = q.1 := by rw [hq]; rfl
      refine ⟨hW.1, hW.2.1, ⟨by show sLc S + 1 ≤ 12; omega, fun e he => ?_⟩⟩
      have he : e < sLc S + 1 := he
      show (zu (sLf S) (sLc S) (k, p, w, sSz o, gOf o, b) e).2.1 < sPc S ∧ (zu (sLf S) (sLc S) (k, p, w, sSz o, gOf o, b) e).2.2.1 < sBw S 0 ∧ 1 ≤ (zu (sLf S) (sLc S) (k, p, w, sSz o, gOf o, b) e).2.2.2.1 ∧ (zu (sLf S) (sLc S) (k, p, w, sSz o, gOf o, b) e).2.2.2.1 ≤ 6 ∧ (∀ i, i < (zu (sLf S) (sLc S) (k, p, w, sSz o, gOf o, b) e).2.2.2.1 → (zu (sLf S) (sLc S) (k, p, w, sSz o, gOf o, b) e).2.2.2.2.1 i < 10 ∧ ∀ j, j < i → (zu (sLf S) (sLc S) (k, p, w, sSz o, gOf o, b) e).2.2.2.2.1 i ≠ (zu (sLf S) (sLc S) (k, p, w, sSz o, gOf o, b) e).2.2.2.2.1 j) ∧ ∀ q, (zu (sLf S) (sLc S) (k, p, w, sSz o, gOf o, b) e).2.2.2.2.2 = some q → q < sPc S
      unfold zu
      by_cases hee : e = sLc S
      · rw [if_pos hee, hsz]
        exact ⟨hp, hw, hpt.1, hpt.2.1, hpt.2.2, hb⟩
      · rw [if_neg hee]
        exact hW.2.2.2 e (by omega)
set_option maxRecDepth 20000 in
theorem tX9_addLeaf {E : zE} {d : Nat} {σ : zM} {S : sS} {p w r : Nat} {k : Bool} {o : Option Nat} (hW : WF S) (hX : RX S σ) (hr : r < 6) : Ret E mX9_addLeaf (d + 4) [zr E 0, .int (bI k), .int (nI p), .int (nI w), .int (nI r), .int (byI o)] σ (qX σ (spAdd S k p w (sR S r) o)) := by
  have h12 := hW.2.2.1
  have hlc : gi σ 0 12 = nI (sLc S) := hX.2.2.2.2.1.1
  have hk := kd_r hr
  have hk1 := kd_r1 hr
  have hS : Sh σ (24 + 2 * r) 40 (sR S r) := hX.1 r hr
  have hpl := sDf_lt (sR S r)
  refine Ret.of [some (zr E 0), some (.int (bI k)), some (.int (nI p)), some (.int (nI w)), some (.int (nI r)), some (.int (byI o)), none] (by decide +kernel) (Nat.le_of_ble_eq_true rfl) rfl ?_
  by_cases hD : sDf (sR S r) = 0
  · have e0 : spAdd S k p w (sR S r) o = _ := if_neg (fun z => z hD)
    obtain ⟨q, hq, hpt, hqg⟩ := sDf0 hD
    have hsz : sSz (sR S r) = q.1 := by rw [hq]; rfl
    have hS' : Sh σ (24 + 2 * r) 40 (some q) := by rw [← hq]; exact hS
    by_cases hl : 12 ≤ sLc S
    · rw [if_pos hl] at e0
      refine z_aload_n 1 dX9_addLeaf_0 rfl rfl ?_
      refine gX9_11 4 rfl dX9_addLeaf_1 rfl ?_
      refine z_iload 6 dX9_addLeaf_4 rfl rfl ?_
      refine z_aald1 7 dX9_addLeaf_6 rfl (by omega) ?_
      refine z_cVI0 10 (tX7_drawnFault hk hk1 hS) kX7_drawnFault dX9_addLeaf_7 rfl lX9_216 (by first | assumption | rfl) (Nat.le_of_ble_eq_true rfl) ?_
      rintro _ _ ⟨e1, e2⟩
      replace e1 := e1.symm
      replace e2 := e2.symm
      subst e1
      subst e2
      rw [hD]
      refine zs_istore_6_7 12 rfl dX9_addLeaf_10 rfl rfl ?_
      refine z_iload 14 dX9_addLeaf_12 rfl rfl ?_
      refine z_if_eq 27 17 dX9_addLeaf_14 (by decide) rfl (fun h14 => ?_) (fun h14 => ?_)
      · (try rw [nI_eq0 (by omega)] at h14)
        refine z_aload_n 28 dX9_addLeaf_27 rfl rfl ?_
        refine gX9_153 31 rfl dX9_addLeaf_28 rfl ?_
        rw [hlc]
        refine z_bipush 33 (v := nI 12) dX9_addLeaf_31 rfl rfl ?_
        refine z_icmp_lt 39 36 dX9_addLeaf_33 (by decide) rfl (fun h33 => ?_) (fun h33 => ?_)
        · (try rw [nI_ltI (by omega) (by omega)] at h33)
          omega
        · (try rw [nI_ltI (by omega) (by omega)] at h33)
          refine z_bipush 38 (v := (-2)) dX9_addLeaf_36 rfl rfl ?_
          refine z_ri dX9_addLeaf_38 rfl ?_
          exact qx0 e0 hX Fr.rf
      · (try rw [nI_eq0 (by omega)] at h14)
        exact absurd rfl h14
    · rw [if_neg hl, hsz] at e0
      have hke := kd_e (show sLc S < 12 by omega)
      refine z_aload_n 1 dX9_addLeaf_0 rfl rfl ?_
      refine gX9_11 4 rfl dX9_addLeaf_1 rfl ?_
      refine z_iload 6 dX9_addLeaf_4 rfl rfl ?_
      refine z_aald1 7 dX9_addLeaf_6 rfl (by omega) ?_
      refine z_cVI0 10 (tX7_drawnFault hk hk1 hS) kX7_drawnFault dX9_addLeaf_7 rfl lX9_216 (by first | assumption | rfl) (Nat.le_of_ble_eq_true rfl) ?_
      rintro _ _ ⟨e1, e2⟩
      replace e1 := e1.symm
      replace e2 := e2.symm
      subst e1
      subst e2
      rw [hD]
      refine zs_istore_6_7 12 rfl dX9_addLeaf_10 rfl rfl ?_
      refine z_iload 14 dX9_addLeaf_12 rfl rfl ?_
      refine z_if_eq 27 17 dX9_addLeaf_14 (by decide) rfl (fun h14 => ?_) (fun h14 => ?_)
      · (try rw [nI_eq0 (by omega)] at h14)
        refine z_aload_n 28 dX9_addLeaf_27 rfl rfl ?_
        refine gX9_153 31 rfl dX9_addLeaf_28 rfl ?_
        rw [hlc]
        refine z_bipush 33 (v := nI 12) dX9_addLeaf_31 rfl rfl ?_
        refine z_icmp_lt 39 36 dX9_addLeaf_33 (by decide) rfl (fun h33 => ?_) (fun h33 => ?_)
        · (try rw [nI_ltI (by omega) (by omega)] at h33)
          refine z_aload_n 40 dX9_addLeaf_39 rfl rfl ?_
          refine gX9_32 43 rfl dX9_addLeaf_40 rfl ?_
          refine z_aload_n 44 dX9_addLeaf_43 rfl rfl ?_
          refine gX9_153 47 rfl dX9_addLeaf_44 rfl ?_
          rw [hlc]
          refine z_aald5 48 dX9_addLeaf_47 rfl (by omega) ?_
          refine z_iload_n 49 dX9_addLeaf_48 rfl rfl ?_
          refine z_iload_n 50 dX9_addLeaf_49 rfl rfl ?_
          refine z_iload_n 51 dX9_addLeaf_50 rfl rfl ?_
          refine z_aload_n 52 dX9_addLeaf_51 rfl rfl ?_
          refine gX9_11 55 rfl dX9_addLeaf_52 rfl ?_
          refine z_iload 57 dX9_addLeaf_55 rfl rfl ?_
          refine z_aald1 58 dX9_addLeaf_57 rfl (by omega) ?_
          refine z_iload 60 dX9_addLeaf_58 rfl rfl ?_
          refine z_cVV5 63 (tX3_write (g := gOf (sR S r)) (show sLc S < 12 by omega) hr hS' hpt hqg) kX3_write dX9_addLeaf_60 rfl lX9_433 (by first | assumption | rfl) (Nat.le_of_ble_eq_true rfl) ?_
          rintro τ1 ⟨hF1, hL1⟩
          refine z_aload_n 64 dX9_addLeaf_63 rfl rfl ?_
          refine z_dup 65 dX9_addLeaf_64 rfl rfl ?_
          refine gX9_153 68 rfl dX9_addLeaf_65 rfl ?_
          rw [hF1.gi (by omega), hlc]
          refine z_iconst 69 (v := nI 1) dX9_addLeaf_68 rfl rfl ?_
          refine z_iadd 70 dX9_addLeaf_69 rfl ?_
          rw [nI_add]
          refine pX9_153 73 rfl dX9_addLeaf_70 rfl ?_
          refine z_aload_n 74 dX9_addLeaf_73 rfl rfl ?_
          refine gX9_153 77 rfl dX9_addLeaf_74 rfl ?_
          rw [gi_s1]
          refine z_iconst 78 (v := nI 1) dX9_addLeaf_77 rfl rfl ?_
          refine z_isub 79 dX9_addLeaf_78 rfl ?_
          rw [show nI (sLc S + 1) - nI 1 = nI (sLc S) from nI_pred _]
          refine z_ri dX9_addLeaf_79 rfl ?_
          have hf2 : Fr (fun x y => x = 0 ∧ y = 12) τ1 (si τ1 0 12 (nI (sLc S + 1))) := Fr.rf.si _ ⟨rfl, rfl⟩
          have hf3 := hF1.tr hf2 (R := fun x y => x = 0 ∧ y = 12 ∨ 64 + 3 * sLc S ≤ x ∧ x < 64 + 3 * sLc S + 3) (by intros; omega) (by intros; omega)
          refine qx0 e0 (hX.L hW (hf3.mono (by intros; omega)) ⟨gi_s1 _ _ _ _, fun e he => ?_⟩) (hf3.mono (by intros; omega))
          have he : e < sLc S + 1 := he
          show XLe _ e (zu (sLf S) (sLc S) (k, p, w, q.1, gOf (sR S r), o) e)
          unfold zu
          by_cases hee : e = sLc S
          · rw [if_pos hee, hee]; exact hL1.fr hf2 (by intros; omega)
          · rw [if_neg hee]; exact XLe.fr (hX.2.2.2.2.1.2 e (by show e < sLc S; omega)) hf3 (by intros; omega)
        · (try rw [nI_ltI (by omega) (by omega)] at h33)
          omega
      · (try rw [nI_eq0 (by omega)] at h14)
        exact absurd rfl h14
  · have e0 : spAdd S k p w (sR S r) o = _ := if_pos hD
    refine z_aload_n 1 dX9_addLeaf_0 rfl rfl ?_
    refine gX9_11 4 rfl dX9_addLeaf_1 rfl ?_
    refine z_iload 6 dX9_addLeaf_4 rfl rfl ?_
    refine z_aald1 7 dX9_addLeaf_6 rfl (by omega) ?_
    refine z_cVI0 10 (tX7_drawnFault hk hk1 hS) kX7_drawnFault dX9_addLeaf_7 rfl lX9_216 (by first | assumption | rfl) (Nat.le_of_ble_eq_true rfl) ?_
    rintro _ _ ⟨e1, e2⟩
    replace e1 := e1.symm
    replace e2 := e2.symm
    subst e1
    subst e2
    refine zs_istore_6_7 12 rfl dX9_addLeaf_10 rfl rfl ?_
    refine z_iload 14 dX9_addLeaf_12 rfl rfl ?_
    refine z_if_eq 27 17 dX9_addLeaf_14 (by decide) rfl (fun h14 => ?_) (fun h14 => ?_)
    · (try rw [nI_eq0 (by omega)] at h14)
      exact absurd h14 hD
    · (try rw [nI_eq0 (by omega)] at h14)
      refine z_aload_n 18 dX9_addLeaf_17 rfl rfl ?_
      refine gX9_39 21 rfl dX9_addLeaf_18 rfl ?_
      refine z_iload 23 dX9_addLeaf_21 rfl rfl ?_
      refine z_cVI1 26 (tX0_found (by omega) hpl) kX0_found dX9_addLeaf_23 rfl lX9_87 (by first | assumption | rfl) (Nat.le_of_ble_eq_true rfl) ?_
      rintro _ _ ⟨e1, e2⟩
      replace e1 := e1.symm
      replace e2 := e2.symm
      subst e1
      subst e2
      refine z_ri dX9_addLeaf_26 rfl ?_
      exact qxf hW e0 hpl hX Fr.rf
def spLeaf (S : sS) (p w r : Int32) : Int32 × sS := if ¬ (inN p (sPc S) ∧ inN w (sBw S 0) ∧ inN r 6) then (-1, S) else spAdd S false (zx p) (zx w) (sR S (zx r)) none
def spGuessed (S : sS) (p r v w : Int32) : Int32 × sS := if ¬ (inN p (sPc S) ∧ inN r 6 ∧ (v = -9 ∨ inN v (sPc S)) ∧ inN w (sBw S 0)) then (-1, S) else spAdd S true (zx p) (zx w) (sR S (zx r)) (byO v)
theorem byO_byI {S : sS} {v : Int32} (h : v = -9 ∨ inN v (sPc S)) (h8 : sPc S ≤ 8) : byI (byO v) = v := by
  rcases h with rfl | h
  · rfl
  · obtain ⟨j, hj, rfl⟩ := inN_of h
    unfold byO
    rw [if_neg (fun z => absurd (nI_pos' (show j < 2 ^ 31 by omega)) (by rw [z]; decide)), zx_nI (by omega)]
    rfl
theorem WF_leaf {S : sS} (hW : WF S) (p w r : Int32) : WF (spLeaf S p w r).2 := by
  unfold spLeaf
  split
  · exact hW
  · rename_i h
    have h := Classical.not_not.mp h
    exact WF_add hW h.1.2 h.2.1.2 (fun q hq => absurd hq (fun z => nomatch z))
theorem WF_guessed {S : sS} (hW : WF S) (p r v w : Int32) : WF (spGuessed S p r v w).2 := by
  unfold spGuessed
  split
  · exact hW
  · rename_i h
    have h := Classical.not_not.mp h
    refine WF_add hW h.1.2 h.2.2.2.2 (fun q hq => ?_)
    unfold byO at hq
    by_cases hv : v = -9
    · rw [if_pos hv] at hq
      exact absurd hq (fun z => nomatch z)
    · rw [if_neg hv] at hq
      have hq : zx v = q := Option.some.inj hq
      rw [← hq]
      exact (h.2.2.1.resolve_left hv).2
set_option maxRecDepth 20000 in
theorem tX9_leaf {E : zE} {d : Nat} {σ : zM} {S : sS} {p w r : Int32} (hW : WF S) (hX : RX S σ) : Ret E mX9_leaf (d + 5) [zr E 0, .int p, .int w, .int r] σ (qX σ (spLeaf S p w r)) := by
  have h8 := hW.2.1.1
  have hb8 := bw_le hW (show 0 < 2 by omega)
  by_cases hA : ¬ (inN p (sPc S) ∧ inN w (sBw S 0) ∧ inN r 6)
  · refine Ret.of [some (zr E 0), some (.int p), some (.int w), some (.int r)] (by decide +kernel) (Nat.le_of_ble_eq_true rfl) rfl ?_
    refine z_aload_n 1 dX9_leaf_0 rfl rfl ?_
    refine z_iload_n 2 dX9_leaf_1 rfl rfl ?_
    refine z_cVI1 5 (tX9_isPl (by assumption) (by assumption)) kX9_isPlayer dX9_leaf_2 rfl lX9_176 (by first | assumption | rfl) (Nat.le_of_ble_eq_true rfl) ?_
    rintro _ _ ⟨e1, e2⟩
    replace e1 := e1.symm
    replace e2 := e2.symm
    subst e1
    subst e2
    refine z_ifb_eq 23 8 dX9_leaf_5 (by decide) rfl (fun h5 => ?_) (fun h5 => ?_)
    · refine z_iconst 24 (v := (-1)) dX9_leaf_23 rfl rfl ?_
      refine z_ri dX9_leaf_24 rfl ?_
      exact qx0 (if_pos hA) hX Fr.rf
    · refine z_aload_n 9 dX9_leaf_8 rfl rfl ?_
      refine z_iload_n 10 dX9_leaf_9 rfl rfl ?_
      refine z_cVI1 13 (tX9_isWord (by assumption) (by assumption)) kX9_isWord dX9_leaf_10 rfl lX9_165 (by first | assumption | rfl) (Nat.le_of_ble_eq_true rfl) ?_
      rintro _ _ ⟨e1, e2⟩
      replace e1 := e1.symm
      replace e2 := e2.symm
      subst e1
      subst e2
      refine z_ifb_eq 23 16 dX9_leaf_13 (by decide) rfl (fun h13 => ?_) (fun h13 => ?_)
      · refine z_iconst 24 (v := (-1)) dX9_leaf_23 rfl rfl ?_
        refine z_ri dX9_leaf_24 rfl ?_
        exact qx0 (if_pos hA) hX Fr.rf
      · refine z_iload_n 17 dX9_leaf_16 rfl rfl ?_
        refine z_cSI1 20 (tX9_isRow) kX9_isRow dX9_leaf_17 rfl lX9_83 (Nat.le_of_ble_eq_true rfl) ?_
        rintro _ _ ⟨e1, e2⟩
        replace e1 := e1.symm
        replace e2 := e2.symm
        subst e1
        subst e2
        refine z_ifb_ne 25 23 dX9_leaf_20 (by decide) rfl (fun h20 => ?_) (fun h20 => ?_)
        · exact absurd ⟨h5, h13, h20⟩ hA
        · refine z_iconst 24 (v := (-1)) dX9_leaf_23 rfl rfl ?_
          refine z_ri dX9_leaf_24 rfl ?_
          exact qx0 (if_pos hA) hX Fr.rf
  have e0 : spLeaf S p w r = _ := if_neg hA
  have hA := Classical.not_not.mp hA
  have hA' := hA
  obtain ⟨p, hp, rfl⟩ := inN_of hA.1
  obtain ⟨w, hw, rfl⟩ := inN_of hA.2.1
  obtain ⟨r, hr, rfl⟩ := inN_of hA.2.2
  rw [zx_nI (by omega), zx_nI (by omega), zx_nI (by omega)] at e0
  rw [e0]
  refine Ret.of [some (zr E 0), some (.int (nI p)), some (.int (nI w)), some (.int (nI r))] (by decide +kernel) (Nat.le_of_ble_eq_true rfl) rfl ?_
  refine z_aload_n 1 dX9_leaf_0 rfl rfl ?_
  refine z_iload_n 2 dX9_leaf_1 rfl rfl ?_
  refine z_cVI1 5 (tX9_isPl (by assumption) (by assumption)) kX9_isPlayer dX9_leaf_2 rfl lX9_176 (by first | assumption | rfl) (Nat.le_of_ble_eq_true rfl) ?_
  rintro _ _ ⟨e1, e2⟩
  replace e1 := e1.symm
  replace e2 := e2.symm
  subst e1
  subst e2
  refine z_ifb_eq 23 8 dX9_leaf_5 (by decide) rfl (fun h5 => ?_) (fun h5 => ?_)
  · exact absurd hA'.1 h5
  · refine z_aload_n 9 dX9_leaf_8 rfl rfl ?_
    refine z_iload_n 10 dX9_leaf_9 rfl rfl ?_
    refine z_cVI1 13 (tX9_isWord (by assumption) (by assumption)) kX9_isWord dX9_leaf_10 rfl lX9_165 (by first | assumption | rfl) (Nat.le_of_ble_eq_true rfl) ?_
    rintro _ _ ⟨e1, e2⟩
    replace e1 := e1.symm
    replace e2 := e2.symm
    subst e1
    subst e2
    refine z_ifb_eq 23 16 dX9_leaf_13 (by decide) rfl (fun h13 => ?_) (fun h13 => ?_)
    · exact absurd hA'.2.1 h13
    · refine z_iload_n 17 dX9_leaf_16 rfl rfl ?_
      refine z_cSI1 20 (tX9_isRow) kX9_isRow dX9_leaf_17 rfl lX9_83 (Nat.le_of_ble_eq_true rfl) ?_
      rintro _ _ ⟨e1, e2⟩
      replace e1 := e1.symm
      replace e2 := e2.symm
      subst e1
      subst e2
      refine z_ifb_ne 25 23 dX9_leaf_20 (by decide) rfl (fun h20 => ?_) (fun h20 => ?_)
      · refine z_aload_n 26 dX9_leaf_25 rfl rfl ?_
        refine z_iconst 27 (v := nI 0) dX9_leaf_26 rfl rfl ?_
        refine z_iload_n 28 dX9_leaf_27 rfl rfl ?_
        refine z_iload_n 29 dX9_leaf_28 rfl rfl ?_
        refine z_iload_n 30 dX9_leaf_29 rfl rfl ?_
        refine z_bipush 32 (v := (-9)) dX9_leaf_30 rfl rfl ?_
        refine z_cVI5 35 (tX9_addLeaf (k := false) (o := none) hW hX hr) kX9_addLeaf dX9_leaf_32 rfl lX9_322 (by first | assumption | rfl) (Nat.le_of_ble_eq_true rfl) ?_
        rintro _ τ1 ⟨e1, hX1, hF1⟩
        subst e1
        refine z_ri dX9_leaf_35 rfl ?_
        exact ⟨rfl, hX1, hF1⟩
      · exact absurd hA'.2.2 h20
set_option maxRecDepth 20000 in
theorem tX9_guessed {E : zE} {d : Nat} {σ : zM} {S : sS} {p r v w : Int32} (hW : WF S) (hX : RX S σ) : Ret E mX9_guessed (d + 5) [zr E 0, .int p, .int r, .int v, .int w] σ (qX σ (spGuessed S p r v w)) := by
  have h8 := hW.2.1.1
  have hb8 := bw_le hW (show 0 < 2 by omega)
  by_cases hA : ¬ (inN p (sPc S) ∧ inN r 6 ∧ (v = -9 ∨ inN v (sPc S)) ∧ inN w (sBw S 0))
  · refine Ret.of [some (zr E 0), some (.int p), some (.int r), some (.int v), some (.int w)] (by decide +kernel) (Nat.le_of_ble_eq_true rfl) rfl ?_
    refine z_aload_n 1 dX9_guessed_0 rfl rfl ?_
    refine z_iload_n 2 dX9_guessed_1 rfl rfl ?_
    refine z_cVI1 5 (tX9_isPl (by assumption) (by assumption)) kX9_isPlayer dX9_guessed_2 rfl lX9_176 (by first | assumption | rfl) (Nat.le_of_ble_eq_true rfl) ?_
    rintro _ _ ⟨e1, e2⟩
    replace e1 := e1.symm
    replace e2 := e2.symm
    subst e1
    subst e2
    refine z_ifb_eq 32 8 dX9_guessed_5 (by decide) rfl (fun h5 => ?_) (fun h5 => ?_)
    · refine z_iconst 33 (v := (-1)) dX9_guessed_32 rfl rfl ?_
      refine z_ri dX9_guessed_33 rfl ?_
      exact qx0 (if_pos hA) hX Fr.rf
    · refine z_iload_n 9 dX9_guessed_8 rfl rfl ?_
      refine z_cSI1 12 (tX9_isRow) kX9_isRow dX9_guessed_9 rfl lX9_83 (Nat.le_of_ble_eq_true rfl) ?_
      rintro _ _ ⟨e1, e2⟩
      replace e1 := e1.symm
      replace e2 := e2.symm
      subst e1
      subst e2
      refine z_ifb_eq 32 15 dX9_guessed_12 (by decide) rfl (fun h12 => ?_) (fun h12 => ?_)
      · refine z_iconst 33 (v := (-1)) dX9_guessed_32 rfl rfl ?_
        refine z_ri dX9_guessed_33 rfl ?_
        exact qx0 (if_pos hA) hX Fr.rf
      · refine z_aload_n 16 dX9_guessed_15 rfl rfl ?_
        refine z_iload_n 17 dX9_guessed_16 rfl rfl ?_
        refine z_cVI1 20 (tX9_isDrawer (by assumption) (by assumption)) kX9_isDrawer dX9_guessed_17 rfl lX9_213 (by first | assumption | rfl) (Nat.le_of_ble_eq_true rfl) ?_
        rintro _ _ ⟨e1, e2⟩
        replace e1 := e1.symm
        replace e2 := e2.symm
        subst e1
        subst e2
        refine z_ifb_eq 32 23 dX9_guessed_20 (by decide) rfl (fun h20 => ?_) (fun h20 => ?_)
        · refine z_iconst 33 (v := (-1)) dX9_guessed_32 rfl rfl ?_
          refine z_ri dX9_guessed_33 rfl ?_
          exact qx0 (if_pos hA) hX Fr.rf
        · refine z_aload_n 24 dX9_guessed_23 rfl rfl ?_
          refine z_iload 26 dX9_guessed_24 rfl rfl ?_
          refine z_cVI1 29 (tX9_isWord (by assumption) (by assumption)) kX9_isWord dX9_guessed_26 rfl lX9_165 (by first | assumption | rfl) (Nat.le_of_ble_eq_true rfl) ?_
          rintro _ _ ⟨e1, e2⟩
          replace e1 := e1.symm
          replace e2 := e2.symm
          subst e1
          subst e2
          refine z_ifb_ne 34 32 dX9_guessed_29 (by decide) rfl (fun h29 => ?_) (fun h29 => ?_)
          · exact absurd ⟨h5, h12, h20, h29⟩ hA
          · refine z_iconst 33 (v := (-1)) dX9_guessed_32 rfl rfl ?_
            refine z_ri dX9_guessed_33 rfl ?_
            exact qx0 (if_pos hA) hX Fr.rf
  have e0 : spGuessed S p r v w = _ := if_neg hA
  have hA := Classical.not_not.mp hA
  have hA' := hA
  have hv := byO_byI hA.2.2.1 h8
  obtain ⟨o, ho⟩ : ∃ o, o = byO v := ⟨_, rfl⟩
  rw [← ho] at hv e0
  obtain ⟨p, hp, rfl⟩ := inN_of hA.1
  obtain ⟨r, hr, rfl⟩ := inN_of hA.2.1
  obtain ⟨w, hw, rfl⟩ := inN_of hA.2.2.2
  rw [zx_nI (by omega), zx_nI (by omega), zx_nI (by omega)] at e0
  rw [e0]
  refine Ret.of [some (zr E 0), some (.int (nI p)), some (.int (nI r)), some (.int v), some (.int (nI w))] (by decide +kernel) (Nat.le_of_ble_eq_true rfl) rfl ?_
  refine z_aload_n 1 dX9_guessed_0 rfl rfl ?_
  refine z_iload_n 2 dX9_guessed_1 rfl rfl ?_
  refine z_cVI1 5 (tX9_isPl (by assumption) (by assumption)) kX9_isPlayer dX9_guessed_2 rfl lX9_176 (by first | assumption | rfl) (Nat.le_of_ble_eq_true rfl) ?_
  rintro _ _ ⟨e1, e2⟩
  replace e1 := e1.symm
  replace e2 := e2.symm
  subst e1
  subst e2
  refine z_ifb_eq 32 8 dX9_guessed_5 (by decide) rfl (fun h5 => ?_) (fun h5 => ?_)
  · exact absurd hA'.1 h5
  · refine z_iload_n 9 dX9_guessed_8 rfl rfl ?_
    refine z_cSI1 12 (tX9_isRow) kX9_isRow dX9_guessed_9 rfl lX9_83 (Nat.le_of_ble_eq_true rfl) ?_
    rintro _ _ ⟨e1, e2⟩
    replace e1 := e1.symm
    replace e2 := e2.symm
    subst e1
    subst e2
    refine z_ifb_eq 32 15 dX9_guessed_12 (by decide) rfl (fun h12 => ?_) (fun h12 => ?_)
    · exact absurd hA'.2.1 h12
    · refine z_aload_n 16 dX9_guessed_15 rfl rfl ?_
      refine z_iload_n 17 dX9_guessed_16 rfl rfl ?_
      refine z_cVI1 20 (tX9_isDrawer (by assumption) (by assumption)) kX9_isDrawer dX9_guessed_17 rfl lX9_213 (by first | assumption | rfl) (Nat.le_of_ble_eq_true rfl) ?_
      rintro _ _ ⟨e1, e2⟩
      replace e1 := e1.symm
      replace e2 := e2.symm
      subst e1
      subst e2
      refine z_ifb_eq 32 23 dX9_guessed_20 (by decide) rfl (fun h20 => ?_) (fun h20 => ?_)
      · exact absurd hA'.2.2.1 h20
      · refine z_aload_n 24 dX9_guessed_23 rfl rfl ?_
        refine z_iload 26 dX9_guessed_24 rfl rfl ?_
        refine z_cVI1 29 (tX9_isWord (by assumption) (by assumption)) kX9_isWord dX9_guessed_26 rfl lX9_165 (by first | assumption | rfl) (Nat.le_of_ble_eq_true rfl) ?_
        rintro _ _ ⟨e1, e2⟩
        replace e1 := e1.symm
        replace e2 := e2.symm
        subst e1
        subst e2
        refine z_ifb_ne 34 32 dX9_guessed_29 (by decide) rfl (fun h29 => ?_) (fun h29 => ?_)
        · refine z_aload_n 35 dX9_guessed_34 rfl rfl ?_
          refine z_iconst 36 (v := nI 1) dX9_guessed_35 rfl rfl ?_
          refine z_iload_n 37 dX9_guessed_36 rfl rfl ?_
          refine z_iload 39 dX9_guessed_37 rfl rfl ?_
          refine z_iload_n 40 dX9_guessed_39 rfl rfl ?_
          refine z_iload_n 41 dX9_guessed_40 rfl rfl ?_
          rw [← hv]
          refine z_cVI5 44 (tX9_addLeaf (k := true) (o := o) hW hX hr) kX9_addLeaf dX9_guessed_41 rfl lX9_322 (by first | assumption | rfl) (Nat.le_of_ble_eq_true rfl) ?_
          rintro _ τ1 ⟨e1, hX1, hF1⟩
          subst e1
          refine z_ri dX9_guessed_44 rfl ?_
          exact ⟨rfl, hX1, hF1⟩
        · exact absurd hA'.2.2.2 h29
