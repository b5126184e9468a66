/-! sign -/
def dG (S : sS) (p w : Nat) : Nat → Nat := fun i => (dS S p w).getD i 0
abbrev sgP (S : sS) (p q w k : Nat) : Prop := 2 ≤ k ∧ 12 ≤ shN S q (k - 1) (dG S p w) (some p) w
/-- how long it is after so many weeks -/
def sg (S : sS) (p q w : Nat) : Nat → Nat
  | 0 => (dS S p w).length
  | n + 1 => if sgP S p q w (sg S p q w n) then sg S p q w n - 1 else sg S p q w n
theorem sg_bd {S : sS} (hW : WF S) {p q w : Nat} (hp : p < sPc S) (hw : w < sBw S 0) : ∀ n, 1 ≤ sg S p q w n ∧ sg S p q w n ≤ (dS S p w).length := by
  have h0 := dS_pts hW hp hw
  intro n
  induction n with
  | zero => exact ⟨h0.1, Nat.le_refl _⟩
  | succ n ih =>
    show 1 ≤ (if sgP S p q w (sg S p q w n) then sg S p q w n - 1 else sg S p q w n) ∧ (if sgP S p q w (sg S p q w n) then sg S p q w n - 1 else sg S p q w n) ≤ _
    split
    · rename_i h
      have := h.1
      omega
    · exact ih
theorem sg_stay {S : sS} {p q w i : Nat} (h : ¬ sgP S p q w (sg S p q w i)) : ∀ n, sg S p q w (i + n) = sg S p q w i := by
  intro n
  induction n with
  | zero => rfl
  | succ n ih =>
    show (if sgP S p q w (sg S p q w (i + n)) then sg S p q w (i + n) - 1 else sg S p q w (i + n)) = _
    rw [ih, if_neg h]
theorem PtsOK.sub {n m : Nat} {g : Nat → Nat} (h : PtsOK n g) (h1 : 1 ≤ m) (h2 : m ≤ n) : PtsOK m g := ⟨h1, Nat.le_trans h2 h.2.1, fun i hi => h.2.2 i (by omega)⟩
set_option maxRecDepth 20000 in
theorem tX9_shortenSign {E : zE} {d : Nat} {σ : zM} {S : sS} {p q w i : Nat} (hW : WF S) (hX : RX S σ) (hp : p < sPc S) (hq : q < sPc S) (hw : w < sBw S 0) (hD : DrG σ 8 (sg S p q w i) (dG S p w)) : Ret E mX9_shortenSign (d + 3) [zr E 0, .int (nI p), .int (nI q), .int (nI w)] σ (qV fun τ => Fr (fun x y => 8 ≤ x ∧ x ≤ 12) σ τ ∧ RX S τ ∧ DrG τ 8 (sg S p q w (i + 1)) (dG S p w)) := by
  have h8 := hW.2.1.1
  have hb8 := bw_le hW (show 0 < 2 by omega)
  have hcp := kd_p (show p < 8 by omega)
  have hcq := kd_p (show q < 8 by omega)
  have hbd := sg_bd hW (q := q) hp hw i
  have hpt : PtsOK (dS S p w).length (dG S p w) := dS_pts hW hp hw
  have h6 := hpt.2.1
  have hsz : gi σ 8 1 = nI (sg S p q w i) := hD.1
  refine Ret.of [some (zr E 0), some (.int (nI p)), some (.int (nI q)), some (.int (nI w))] (by decide +kernel) (Nat.le_of_ble_eq_true rfl) rfl ?_
  by_cases h2 : 2 ≤ sg S p q w i
  · have hl := shN_le hW hq (sg S p q w i - 1) (dG S p w) (some p) hw
    have hf0 : Fr (fun x y => x = 8 ∧ y = 1) σ (si σ 8 1 (nI (sg S p q w i - 1))) := Fr.rf.si _ ⟨rfl, rfl⟩
    have hX0 : RX S (si σ 8 1 (nI (sg S p q w i - 1))) := hX.scr hW (hf0.mono (by unfold xS; intros; omega))
    have hD0 : DrG (si σ 8 1 (nI (sg S p q w i - 1))) 8 (sg S p q w i - 1) (dG S p w) := ⟨gi_s1 _ _ _ _, fun j hj => (gi_s2 _ _ (by omega)).trans (hD.2 j (by omega))⟩
    refine z_aload_n 1 dX9_shortenSign_0 rfl rfl ?_
    refine gX9_46 4 rfl dX9_shortenSign_1 rfl ?_
    refine gX9_189 7 rfl dX9_shortenSign_4 rfl (by first | assumption | rfl) ?_
    rw [hsz]
    refine z_iconst 8 (v := nI 2) dX9_shortenSign_7 rfl rfl ?_
    refine z_icmp_ge 12 11 dX9_shortenSign_8 (by decide) rfl (fun h8 => ?_) (fun h8 => ?_)
    · (try rw [nI_leI (by omega) (by omega)] at h8)
      refine z_aload_n 13 dX9_shortenSign_12 rfl rfl ?_
      refine gX9_46 16 rfl dX9_shortenSign_13 rfl ?_
      refine z_dup 17 dX9_shortenSign_16 rfl rfl ?_
      refine gX9_189 20 rfl dX9_shortenSign_17 rfl (by first | assumption | rfl) ?_
      rw [hsz]
      refine z_iconst 21 (v := nI 1) dX9_shortenSign_20 rfl rfl ?_
      refine z_isub 22 dX9_shortenSign_21 rfl ?_
      rw [nI_sub (by omega)]
      refine pX9_189 25 rfl dX9_shortenSign_22 rfl (by first | assumption | rfl) ?_
      refine z_aload_n 26 dX9_shortenSign_25 rfl rfl ?_
      refine gX9_53 29 rfl dX9_shortenSign_26 rfl ?_
      refine z_aload_n 30 dX9_shortenSign_29 rfl rfl ?_
      refine gX9_26 33 rfl dX9_shortenSign_30 rfl ?_
      refine z_iload_n 34 dX9_shortenSign_33 rfl rfl ?_
      refine z_aald4 35 dX9_shortenSign_34 rfl (by omega) ?_
      refine z_aload_n 36 dX9_shortenSign_35 rfl rfl ?_
      refine gX9_46 39 rfl dX9_shortenSign_36 rfl ?_
      refine z_aload_n 40 dX9_shortenSign_39 rfl rfl ?_
      refine gX9_26 43 rfl dX9_shortenSign_40 rfl ?_
      refine z_iload_n 44 dX9_shortenSign_43 rfl rfl ?_
      refine z_aald4 45 dX9_shortenSign_44 rfl (by omega) ?_
      refine z_cVV3 48 (tX6_reckonS (o := some p) hW hX0 hq hD0 (hpt.sub (by omega) (by omega)) (hX0.by hW hp)) kX6_reckon dX9_shortenSign_45 rfl lX9_225 (by first | assumption | rfl) (Nat.le_of_ble_eq_true rfl) ?_
      rintro τ1 ⟨hF1, hX1, hS1⟩
      have hF2 : Fr (fun x y => 8 ≤ x ∧ x ≤ 12) σ τ1 := hf0.tr hF1 (by intros; omega) (by intros; omega)
      refine z_aload_n 49 dX9_shortenSign_48 rfl rfl ?_
      refine gX9_53 52 rfl dX9_shortenSign_49 rfl ?_
      refine z_iload_n 53 dX9_shortenSign_52 rfl rfl ?_
      refine z_cVI1 56 (tX6_get hb8 hS1.1 hw) kX6_get dX9_shortenSign_53 rfl lX9_197 (by first | assumption | rfl) (Nat.le_of_ble_eq_true rfl) ?_
      rintro _ _ ⟨e1, e2⟩
      replace e1 := e1.symm
      replace e2 := e2.symm
      subst e1
      subst e2
      rw [hS1.2.2 w hw, show hSh (gSS S q (sg S p q w i - 1) (dG S p w) (some p)) (sBw S 0) (fv S q) w = shN S q (sg S p q w i - 1) (dG S p w) (some p) w from rfl]
      refine z_bipush 58 (v := nI 12) dX9_shortenSign_56 rfl rfl ?_
      refine z_icmp_ge 74 61 dX9_shortenSign_58 (by decide) rfl (fun h58 => ?_) (fun h58 => ?_)
      · (try rw [nI_leI (by omega) (by omega)] at h58)
        have er : sg S p q w (i + 1) = sg S p q w i - 1 := if_pos ⟨h2, by omega⟩
        refine z_rv dX9_shortenSign_74 rfl ?_
        first
          | (refine ⟨hF2, hX1, ?_⟩
             rw [er]
             exact hD0.fr hF1 (by intros; omega) (by intros; omega))
          | (have hf3 : Fr (fun x y => x = 8 ∧ y = 1) τ1 (si τ1 8 1 (nI (sg S p q w i))) := Fr.rf.si _ ⟨rfl, rfl⟩
             refine ⟨hF2.tr hf3 (fun _ _ h => h) (by intros; omega), hX1.scr hW (hf3.mono (by unfold xS; intros; omega)), ?_⟩
             rw [er]
             exact ⟨gi_s1 _ _ _ _, fun j hj => (gi_s2 _ _ (by omega)).trans ((hF1.gi (by omega)).trans ((gi_s2 _ _ (by omega)).trans (hD.2 j hj)))⟩)
      · (try rw [nI_leI (by omega) (by omega)] at h58)
        have er : sg S p q w (i + 1) = sg S p q w i := if_neg (fun z => by have := z.2; omega)
        refine z_aload_n 62 dX9_shortenSign_61 rfl rfl ?_
        refine gX9_46 65 rfl dX9_shortenSign_62 rfl ?_
        refine z_dup 66 dX9_shortenSign_65 rfl rfl ?_
        refine gX9_189 69 rfl dX9_shortenSign_66 rfl (by first | assumption | rfl) ?_
        rw [hF1.gi (by omega), gi_s1]
        refine z_iconst 70 (v := nI 1) dX9_shortenSign_69 rfl rfl ?_
        refine z_iadd 71 dX9_shortenSign_70 rfl ?_
        rw [nI_add, show sg S p q w i - 1 + 1 = sg S p q w i by omega]
        refine pX9_189 74 rfl dX9_shortenSign_71 rfl (by first | assumption | rfl) ?_
        refine z_rv dX9_shortenSign_74 rfl ?_
        first
          | (refine ⟨hF2, hX1, ?_⟩
             rw [er]
             exact hD0.fr hF1 (by intros; omega) (by intros; omega))
          | (have hf3 : Fr (fun x y => x = 8 ∧ y = 1) τ1 (si τ1 8 1 (nI (sg S p q w i))) := Fr.rf.si _ ⟨rfl, rfl⟩
             refine ⟨hF2.tr hf3 (fun _ _ h => h) (by intros; omega), hX1.scr hW (hf3.mono (by unfold xS; intros; omega)), ?_⟩
             rw [er]
             exact ⟨gi_s1 _ _ _ _, fun j hj => (gi_s2 _ _ (by omega)).trans ((hF1.gi (by omega)).trans ((gi_s2 _ _ (by omega)).trans (hD.2 j hj)))⟩)
    · (try rw [nI_leI (by omega) (by omega)] at h8)
      omega
  · have er : sg S p q w (i + 1) = sg S p q w i := if_neg (fun z => h2 z.1)
    refine z_aload_n 1 dX9_shortenSign_0 rfl rfl ?_
    refine gX9_46 4 rfl dX9_shortenSign_1 rfl ?_
    refine gX9_189 7 rfl dX9_shortenSign_4 rfl (by first | assumption | rfl) ?_
    rw [hsz]
    refine z_iconst 8 (v := nI 2) dX9_shortenSign_7 rfl rfl ?_
    refine z_icmp_ge 12 11 dX9_shortenSign_8 (by decide) rfl (fun h8 => ?_) (fun h8 => ?_)
    · (try rw [nI_leI (by omega) (by omega)] at h8)
      omega
    · (try rw [nI_leI (by omega) (by omega)] at h8)
      refine z_rv dX9_shortenSign_11 rfl ?_
      exact ⟨Fr.rf, hX, by rw [er]; exact hD⟩
abbrev sgOK (S : sS) (p q w n r : Int32) : Prop := inN p (sPc S) ∧ inN q (sPc S) ∧ ¬ p = q ∧ inN w (sBw S 0) ∧ inN n 10 ∧ inN r 6
def spSign (S : sS) (p q w n r : Int32) : Int32 × sS := if ¬ sgOK S p q w n r then (-1, S) else (nI (sg S (zx p) (zx q) (zx w) (zx n)), setR S (zx r) (some (sg S (zx p) (zx q) (zx w) (zx n), fun i => nI (dG S (zx p) (zx w) i))))
theorem in10 {n : Int32} (h1 : ¬ n < 0) (h2 : ¬ nI 9 < n) : inN n 10 := by
  obtain ⟨j, hj, rfl⟩ := nI_of h1
  rw [nI_ltI (by decide) hj] at h2
  exact inN_nI (by omega) hj
set_option maxRecDepth 20000 in
theorem tX9_sign {E : zE} {d : Nat} {σ : zM} {S : sS} {p q w n r : Int32} (hW : WF S) (hX : RX S σ) : Ret E mX9_sign (d + 4) [zr E 0, .int p, .int q, .int w, .int n, .int r] σ (qX σ (spSign S p q w n r)) := by
  have h8 := hW.2.1.1
  have hb8 := bw_le hW (show 0 < 2 by omega)
  by_cases hA : ¬ sgOK S p q w n r
  · refine Ret.of [some (zr E 0), some (.int p), some (.int q), some (.int w), some (.int n), some (.int r), none] (by decide +kernel) (Nat.le_of_ble_eq_true rfl) rfl ?_
    refine z_aload_n 1 dX9_sign_0 rfl rfl ?_
    refine z_iload_n 2 dX9_sign_1 rfl rfl ?_
    refine z_cVI1 5 (tX9_isPl (by assumption) (by assumption)) kX9_isPlayer dX9_sign_2 rfl lX9_176 (by first | assumption | rfl) (Nat.le_of_ble_eq_true rfl) ?_
    rintro _ _ ⟨e1, e2⟩
    replace e1 := e1.symm
    replace e2 := e2.symm
    subst e1
    subst e2
    refine z_ifb_eq 29 8 dX9_sign_5 (by decide) rfl (fun h5 => ?_) (fun h5 => ?_)
    · refine z_iconst 30 (v := (-1)) dX9_sign_29 rfl rfl ?_
      refine z_ri dX9_sign_30 rfl ?_
      exact qx0 (if_pos hA) hX Fr.rf
    · refine z_aload_n 9 dX9_sign_8 rfl rfl ?_
      refine z_iload_n 10 dX9_sign_9 rfl rfl ?_
      refine z_cVI1 13 (tX9_isPl (by assumption) (by assumption)) kX9_isPlayer dX9_sign_10 rfl lX9_176 (by first | assumption | rfl) (Nat.le_of_ble_eq_true rfl) ?_
      rintro _ _ ⟨e1, e2⟩
      replace e1 := e1.symm
      replace e2 := e2.symm
      subst e1
      subst e2
      refine z_ifb_eq 29 16 dX9_sign_13 (by decide) rfl (fun h13 => ?_) (fun h13 => ?_)
      · refine z_iconst 30 (v := (-1)) dX9_sign_29 rfl rfl ?_
        refine z_ri dX9_sign_30 rfl ?_
        exact qx0 (if_pos hA) hX Fr.rf
      · refine z_iload_n 17 dX9_sign_16 rfl rfl ?_
        refine z_iload_n 18 dX9_sign_17 rfl rfl ?_
        refine z_icmp_eq 29 21 dX9_sign_18 (by decide) rfl (fun h18 => ?_) (fun h18 => ?_)
        · refine z_iconst 30 (v := (-1)) dX9_sign_29 rfl rfl ?_
          refine z_ri dX9_sign_30 rfl ?_
          exact qx0 (if_pos hA) hX Fr.rf
        · refine z_aload_n 22 dX9_sign_21 rfl rfl ?_
          refine z_iload_n 23 dX9_sign_22 rfl rfl ?_
          refine z_cVI1 26 (tX9_isWord (by assumption) (by assumption)) kX9_isWord dX9_sign_23 rfl lX9_165 (by first | assumption | rfl) (Nat.le_of_ble_eq_true rfl) ?_
          rintro _ _ ⟨e1, e2⟩
          replace e1 := e1.symm
          replace e2 := e2.symm
          subst e1
          subst e2
          refine z_ifb_ne 31 29 dX9_sign_26 (by decide) rfl (fun h26 => ?_) (fun h26 => ?_)
          · refine z_iload 33 dX9_sign_31 rfl rfl ?_
            refine z_if_lt 51 36 dX9_sign_33 (by decide) rfl (fun h33 => ?_) (fun h33 => ?_)
            · refine z_iconst 52 (v := (-1)) dX9_sign_51 rfl rfl ?_
              refine z_ri dX9_sign_52 rfl ?_
              exact qx0 (if_pos hA) hX Fr.rf
            · refine z_iload 38 dX9_sign_36 rfl rfl ?_
              refine z_bipush 40 (v := nI 9) dX9_sign_38 rfl rfl ?_
              refine z_icmp_gt 51 43 dX9_sign_40 (by decide) rfl (fun h40 => ?_) (fun h40 => ?_)
              · refine z_iconst 52 (v := (-1)) dX9_sign_51 rfl rfl ?_
                refine z_ri dX9_sign_52 rfl ?_
                exact qx0 (if_pos hA) hX Fr.rf
              · refine z_iload 45 dX9_sign_43 rfl rfl ?_
                refine z_cSI1 48 (tX9_isRow) kX9_isRow dX9_sign_45 rfl lX9_83 (Nat.le_of_ble_eq_true rfl) ?_
                rintro _ _ ⟨e1, e2⟩
                replace e1 := e1.symm
                replace e2 := e2.symm
                subst e1
                subst e2
                refine z_ifb_ne 53 51 dX9_sign_48 (by decide) rfl (fun h48 => ?_) (fun h48 => ?_)
                · exact absurd ⟨h5, h13, h18, h26, in10 h33 h40, h48⟩ hA
                · refine z_iconst 52 (v := (-1)) dX9_sign_51 rfl rfl ?_
                  refine z_ri dX9_sign_52 rfl ?_
                  exact qx0 (if_pos hA) hX Fr.rf
          · refine z_iconst 30 (v := (-1)) dX9_sign_29 rfl rfl ?_
            refine z_ri dX9_sign_30 rfl ?_
            exact qx0 (if_pos hA) hX Fr.rf
  have e0 : spSign S p q w n r = _ := if_neg hA
  have hA := Classical.not_not.mp hA
  have hA' := hA
  obtain ⟨a1, a2, a3, a4, a5, a6⟩ := hA
  obtain ⟨p, hp, rfl⟩ := inN_of a1
  obtain ⟨q, hq, rfl⟩ := inN_of a2
  obtain ⟨w, hw, rfl⟩ := inN_of a4
  obtain ⟨n, hn, rfl⟩ := inN_of a5
  obtain ⟨r, hr, rfl⟩ := inN_of a6
  obtain ⟨b1, b2, b3, b4, b5, b6⟩ := hA'
  rw [zx_nI (by omega), zx_nI (by omega), zx_nI (by omega), zx_nI (by omega), zx_nI (by omega)] at e0
  have hk := kd_r hr
  have hk1 := kd_r1 hr
  have hcp := kd_p (show p < 8 by omega)
  have h6 := (dS_pts hW hp hw).2.1
  have loop : ∀ i, i ≤ n → ∀ τ, Fr (fun x y => 8 ≤ x ∧ x ≤ 12) σ τ → RX S τ → DrG τ 8 (sg S p q w i) (dG S p w) → At E mX9_sign (d + 4) (qX σ (spSign S (nI p) (nI q) (nI w) (nI n) (nI r))) 70 [some (zr E 0), some (.int (nI p)), some (.int (nI q)), some (.int (nI w)), some (.int (nI n)), some (.int (nI r)), some (.int (nI i))] [] τ := by
    refine z_up (fun i hi ih τ hF hR hD => ?_)
    have hbd := sg_bd hW (q := q) hp hw i
    by_cases hie : i = n
    · subst hie
      refine z_iload 72 dX9_sign_70 rfl rfl ?_
      refine z_iload 74 dX9_sign_72 rfl rfl ?_
      refine z_icmp_ge 90 77 dX9_sign_74 (by decide) rfl (fun h74 => ?_) (fun h74 => ?_)
      · (try rw [nI_leI (by omega) (by omega)] at h74)
        refine z_aload_n 91 dX9_sign_90 rfl rfl ?_
        refine gX9_11 94 rfl dX9_sign_91 rfl ?_
        refine z_iload 96 dX9_sign_94 rfl rfl ?_
        refine z_aald1 97 dX9_sign_96 rfl (by omega) ?_
        refine z_aload_n 98 dX9_sign_97 rfl rfl ?_
        refine gX9_46 101 rfl dX9_sign_98 rfl ?_
        refine gX9_208 104 rfl dX9_sign_101 rfl (by first | assumption | rfl) ?_
        refine z_aload_n 105 dX9_sign_104 rfl rfl ?_
        refine gX9_46 108 rfl dX9_sign_105 rfl ?_
        refine gX9_189 111 rfl dX9_sign_108 rfl (by first | assumption | rfl) ?_
        rw [hD.1]
        refine z_cVV2 114 (tX7_take (b := 8 + 1) (cb := 6) hk hk1 rfl (by omega) (by omega)) kX7_take dX9_sign_111 rfl lX9_209 (by first | assumption | rfl) (Nat.le_of_ble_eq_true rfl) ?_
        rintro τ1 ⟨hF1, hS1⟩
        refine z_aload_n 115 dX9_sign_114 rfl rfl ?_
        refine gX9_46 118 rfl dX9_sign_115 rfl ?_
        refine gX9_189 121 rfl dX9_sign_118 rfl (by first | assumption | rfl) ?_
        rw [hF1.gi (by omega), hD.1]
        refine z_ri dX9_sign_121 rfl ?_
        exact qx0 e0 (hR.R hW hF1 hr (hS1.cong hD.2)) (hF.tr hF1 (by intros; omega) (by intros; omega))
      · (try rw [nI_leI (by omega) (by omega)] at h74)
        omega
    · refine z_iload 72 dX9_sign_70 rfl rfl ?_
      refine z_iload 74 dX9_sign_72 rfl rfl ?_
      refine z_icmp_ge 90 77 dX9_sign_74 (by decide) rfl (fun h74 => ?_) (fun h74 => ?_)
      · (try rw [nI_leI (by omega) (by omega)] at h74)
        omega
      · (try rw [nI_leI (by omega) (by omega)] at h74)
        refine z_aload_n 78 dX9_sign_77 rfl rfl ?_
        refine z_iload_n 79 dX9_sign_78 rfl rfl ?_
        refine z_iload_n 80 dX9_sign_79 rfl rfl ?_
        refine z_iload_n 81 dX9_sign_80 rfl rfl ?_
        refine z_cVV3 84 (tX9_shortenSign hW hR hp hq hw hD) kX9_shortenSign dX9_sign_81 rfl lX9_356 (by first | assumption | rfl) (Nat.le_of_ble_eq_true rfl) ?_
        rintro τ1 ⟨hF1, hX1, hD1⟩
        refine zs_iinc_6_7_1 87 rfl dX9_sign_84 rfl rfl ?_
        rw [nI_add]
        refine z_goto 70 dX9_sign_87 rfl ?_
        exact ih (i + 1) (by omega) (by omega) τ1 (hF.tr hF1 (fun _ _ h => h) (fun _ _ h => h)) hX1 hD1
  refine Ret.of [some (zr E 0), some (.int (nI p)), some (.int (nI q)), some (.int (nI w)), some (.int (nI n)), some (.int (nI r)), none] (by decide +kernel) (Nat.le_of_ble_eq_true rfl) rfl ?_
  refine z_aload_n 1 dX9_sign_0 rfl rfl ?_
  refine z_iload_n 2 dX9_sign_1 rfl rfl ?_
  refine z_cVI1 5 (tX9_isPl (by assumption) (by assumption)) kX9_isPlayer dX9_sign_2 rfl lX9_176 (by first | assumption | rfl) (Nat.le_of_ble_eq_true rfl) ?_
  rintro _ _ ⟨e1, e2⟩
  replace e1 := e1.symm
  replace e2 := e2.symm
  subst e1
  subst e2
  refine z_ifb_eq 29 8 dX9_sign_5 (by decide) rfl (fun h5 => ?_) (fun h5 => ?_)
  · exact absurd b1 h5
  · refine z_aload_n 9 dX9_sign_8 rfl rfl ?_
    refine z_iload_n 10 dX9_sign_9 rfl rfl ?_
    refine z_cVI1 13 (tX9_isPl (by assumption) (by assumption)) kX9_isPlayer dX9_sign_10 rfl lX9_176 (by first | assumption | rfl) (Nat.le_of_ble_eq_true rfl) ?_
    rintro _ _ ⟨e1, e2⟩
    replace e1 := e1.symm
    replace e2 := e2.symm
    subst e1
    subst e2
    refine z_ifb_eq 29 16 dX9_sign_13 (by decide) rfl (fun h13 => ?_) (fun h13 => ?_)
    · exact absurd b2 h13
    · refine z_iload_n 17 dX9_sign_16 rfl rfl ?_
      refine z_iload_n 18 dX9_sign_17 rfl rfl ?_
      refine z_icmp_eq 29 21 dX9_sign_18 (by decide) rfl (fun h18 => ?_) (fun h18 => ?_)
      · exact absurd h18 b3
      · refine z_aload_n 22 dX9_sign_21 rfl rfl ?_
        refine z_iload_n 23 dX9_sign_22 rfl rfl ?_
        refine z_cVI1 26 (tX9_isWord (by assumption) (by assumption)) kX9_isWord dX9_sign_23 rfl lX9_165 (by first | assumption | rfl) (Nat.le_of_ble_eq_true rfl) ?_
        rintro _ _ ⟨e1, e2⟩
        replace e1 := e1.symm
        replace e2 := e2.symm
        subst e1
        subst e2
        refine z_ifb_ne 31 29 dX9_sign_26 (by decide) rfl (fun h26 => ?_) (fun h26 => ?_)
        · refine z_iload 33 dX9_sign_31 rfl rfl ?_
          refine z_if_lt 51 36 dX9_sign_33 (by decide) rfl (fun h33 => ?_) (fun h33 => ?_)
          · (try rw [nI_lt0 (by omega)] at h33)
            exact h33.elim
          · (try rw [nI_lt0 (by omega)] at h33)
            refine z_iload 38 dX9_sign_36 rfl rfl ?_
            refine z_bipush 40 (v := nI 9) dX9_sign_38 rfl rfl ?_
            refine z_icmp_gt 51 43 dX9_sign_40 (by decide) rfl (fun h40 => ?_) (fun h40 => ?_)
            · (try rw [nI_ltI (by omega) (by omega)] at h40)
              omega
            · (try rw [nI_ltI (by omega) (by omega)] at h40)
              refine z_iload 45 dX9_sign_43 rfl rfl ?_
              refine z_cSI1 48 (tX9_isRow) kX9_isRow dX9_sign_45 rfl lX9_83 (Nat.le_of_ble_eq_true rfl) ?_
              rintro _ _ ⟨e1, e2⟩
              replace e1 := e1.symm
              replace e2 := e2.symm
              subst e1
              subst e2
              refine z_ifb_ne 53 51 dX9_sign_48 (by decide) rfl (fun h48 => ?_) (fun h48 => ?_)
              · refine z_aload_n 54 dX9_sign_53 rfl rfl ?_
                refine gX9_46 57 rfl dX9_sign_54 rfl ?_
                refine z_aload_n 58 dX9_sign_57 rfl rfl ?_
                refine gX9_26 61 rfl dX9_sign_58 rfl ?_
                refine z_iload_n 62 dX9_sign_61 rfl rfl ?_
                refine z_aald4 63 dX9_sign_62 rfl (by omega) ?_
                refine z_iload_n 64 dX9_sign_63 rfl rfl ?_
                refine z_cVV2 67 (tX2_drawS hW hX hp hw) kX2_drawBy dX9_sign_64 rfl lX9_185 (by first | assumption | rfl) (Nat.le_of_ble_eq_true rfl) ?_
                rintro τ1 ⟨hF1, hX1, hD1⟩
                refine z_iconst 68 (v := nI 0) dX9_sign_67 rfl rfl ?_
                refine zs_istore_6_7 70 rfl dX9_sign_68 rfl rfl ?_
                exact loop 0 (Nat.zero_le _) τ1 (hF1.mono (by intros; omega)) hX1 hD1
              · exact absurd b6 h48
        · exact absurd b4 h26
set_option maxRecDepth 20000 in
theorem tX10_drawS {E : zE} {d : Nat} {σ : zM} {S : sS} {p w : Nat} (hW : WF S) (hX : RM S σ) (hp : p < sPc S) (hw : w < sBw S 0) : Ret E mX10_setDrawing (d + 2) [zr E 102, .int (nI p), .int (nI w)] σ (qV fun τ => Fr (fun a j => a = 102 ∧ j = 16 ∨ a = 112) σ τ ∧ RM S τ ∧ gi τ 102 16 = nI (dS S p w).length ∧ ∀ i, i < (dS S p w).length → gi τ 112 i = nI (dG S p w i)) := by
  have h8 := hW.2.1.1
  obtain ⟨o1, o2, o3, o4, o5⟩ := plOK hW hp
  refine (tX10_setDrawing (p := p) (bw := sBw S 0) (u := sUs S (sPl S p).2.1) (show p < 9 by omega) (hX.py hp) o1 o2 o3 o4 (hX.bxp hW hp) hw (usLe hW hp hw)).imp (fun v τ h => ?_)
  obtain ⟨h1, h2, h3⟩ := h
  exact ⟨h1, h2, hX.scr hW (h2.mono (by unfold mS; intros; omega)), h3.1, h3.2⟩
set_option maxRecDepth 20000 in
theorem tX10_setSign {E : zE} {d : Nat} {σ : zM} {S : sS} {p q w n : Nat} (hW : WF S) (hX : RM S σ) (hp : p < sPc S) (hq : q < sPc S) (hw : w < sBw S 0) (hn : n < 10) : Ret E mX10_setSign (d + 6) [zr E 102, .int (nI p), .int (nI q), .int (nI w), .int (nI n)] σ (qV fun τ => Fr (fun a j => a = 102 ∧ (j = 16 ∨ j = 18) ∨ 112 ≤ a ∧ a ≤ 115) σ τ ∧ RM S τ ∧ gi τ 102 16 = nI (sg S p q w n) ∧ ∀ i, i < (dS S p w).length → gi τ 112 i = nI (dG S p w i)) := by
  have h8 := hW.2.1.1
  have hb8 := bw_le hW (show 0 < 2 by omega)
  have hpt : PtsOK (dS S p w).length (dG S p w) := dS_pts hW hp hw
  have h6 := hpt.2.1
  refine Ret.of [some (zr E 102), some (.int (nI p)), some (.int (nI q)), some (.int (nI w)), some (.int (nI n)), none, none, none] (by decide +kernel) (Nat.le_of_ble_eq_true rfl) rfl ?_
  have hend : ∀ y6 y7 τ, Fr (fun a j => a = 102 ∧ (j = 16 ∨ j = 18) ∨ 112 ≤ a ∧ a ≤ 115) σ τ → RM S τ → At E mX10_setSign (d + 6) (qV fun τ => Fr (fun a j => a = 102 ∧ (j = 16 ∨ j = 18) ∨ 112 ≤ a ∧ a ≤ 115) σ τ ∧ RM S τ ∧ gi τ 102 16 = nI (sg S p q w n) ∧ ∀ i, i < (dS S p w).length → gi τ 112 i = nI (dG S p w i)) 111 [some (zr E 102), some (.int (nI p)), some (.int (nI q)), some (.int (nI w)), some (.int (nI n)), some (.int (nI (sg S p q w n))), y6, y7] [] τ := by
    intro y6 y7 τ hF hR
    refine z_aload_n 112 dX10_setSign_111 rfl rfl ?_
    refine z_iload_n 113 dX10_setSign_112 rfl rfl ?_
    refine z_iload_n 114 dX10_setSign_113 rfl rfl ?_
    refine z_cVV2 117 (tX10_drawS hW hR hp hw) kX10_setDrawing dX10_setSign_114 rfl lX10_174 (by first | assumption | rfl) (Nat.le_of_ble_eq_true rfl) ?_
    rintro τ1 ⟨hF1, hX1, hD1, hG1⟩
    refine z_aload_n 118 dX10_setSign_117 rfl rfl ?_
    refine z_iload 120 dX10_setSign_118 rfl rfl ?_
    refine pX10_171 123 rfl dX10_setSign_120 rfl ?_
    refine z_rv dX10_setSign_123 rfl ?_
    have hf : Fr (fun a j => a = 102 ∧ j = 16) τ1 (si τ1 102 16 (nI (sg S p q w n))) := Fr.rf.si _ ⟨rfl, rfl⟩
    exact ⟨(hF.tr hF1 (fun _ _ h => h) (by intros; omega)).tr hf (fun _ _ h => h) (by intros; omega), hX1.scr hW (hf.mono (by unfold mS; intros; omega)), gi_s1 _ _ _ _, fun j hj => (gi_s2 _ _ (by omega)).trans (hG1 j hj)⟩
  have loop : ∀ i, i ≤ n → ∀ τ, Fr (fun a j => a = 102 ∧ (j = 16 ∨ j = 18) ∨ 112 ≤ a ∧ a ≤ 115) σ τ → RM S τ → At E mX10_setSign (d + 6) (qV fun τ => Fr (fun a j => a = 102 ∧ (j = 16 ∨ j = 18) ∨ 112 ≤ a ∧ a ≤ 115) σ τ ∧ RM S τ ∧ gi τ 102 16 = nI (sg S p q w n) ∧ ∀ i, i < (dS S p w).length → gi τ 112 i = nI (dG S p w i)) 18 [some (zr E 102), some (.int (nI p)), some (.int (nI q)), some (.int (nI w)), some (.int (nI n)), some (.int (nI (sg S p q w i))), some (.int (nI 1)), some (.int (nI i))] [] τ := by
    refine z_up (fun i hi ih τ hF hR => ?_)
    have hbd := sg_bd hW (q := q) hp hw i
    by_cases hie : i = n
    · subst hie
      refine z_iload 20 dX10_setSign_18 rfl rfl ?_
      refine z_iload 22 dX10_setSign_20 rfl rfl ?_
      refine z_icmp_ge 111 25 dX10_setSign_22 (by decide) rfl (fun h22 => ?_) (fun h22 => ?_)
      · (try rw [nI_leI (by omega) (by omega)] at h22)
        exact hend _ _ τ hF hR
      · (try rw [nI_leI (by omega) (by omega)] at h22)
        omega
    · have hil : i < n := by omega
      have stop : ∀ τ, Fr (fun a j => a = 102 ∧ (j = 16 ∨ j = 18) ∨ 112 ≤ a ∧ a ≤ 115) σ τ → RM S τ → ¬ sgP S p q w (sg S p q w i) → At E mX10_setSign (d + 6) (qV fun τ => Fr (fun a j => a = 102 ∧ (j = 16 ∨ j = 18) ∨ 112 ≤ a ∧ a ≤ 115) σ τ ∧ RM S τ ∧ gi τ 102 16 = nI (sg S p q w n) ∧ ∀ i, i < (dS S p w).length → gi τ 112 i = nI (dG S p w i)) 105 [some (zr E 102), some (.int (nI p)), some (.int (nI q)), some (.int (nI w)), some (.int (nI n)), some (.int (nI (sg S p q w i))), some (.int (nI 0)), some (.int (nI i))] [] τ := by
        intro τ hF hR hno
        have es : sg S p q w i = sg S p q w n := by
          have := sg_stay hno (n - i)
          rw [show i + (n - i) = n by omega] at this
          exact this.symm
        rw [es]
        refine zs_iinc_7_8_1 108 rfl dX10_setSign_105 rfl rfl ?_
        rw [nI_add]
        refine z_goto 18 dX10_setSign_108 rfl ?_
        refine z_iload 20 dX10_setSign_18 rfl rfl ?_
        refine z_iload 22 dX10_setSign_20 rfl rfl ?_
        refine z_icmp_ge 111 25 dX10_setSign_22 (by decide) rfl (fun h22 => ?_) (fun h22 => ?_)
        · (try rw [nI_leI (by omega) (by omega)] at h22)
          exact hend _ _ τ hF hR
        · (try rw [nI_leI (by omega) (by omega)] at h22)
          refine z_iload 27 dX10_setSign_25 rfl rfl ?_
          refine z_if_eq 111 30 dX10_setSign_27 (by decide) rfl (fun h27 => ?_) (fun h27 => ?_)
          · exact hend _ _ τ hF hR
          · exact absurd rfl h27
      have go0 : ∀ τ, Fr (fun a j => a = 102 ∧ (j = 16 ∨ j = 18) ∨ 112 ≤ a ∧ a ≤ 115) σ τ → RM S τ → ¬ sgP S p q w (sg S p q w i) → At E mX10_setSign (d + 6) (qV fun τ => Fr (fun a j => a = 102 ∧ (j = 16 ∨ j = 18) ∨ 112 ≤ a ∧ a ≤ 115) σ τ ∧ RM S τ ∧ gi τ 102 16 = nI (sg S p q w n) ∧ ∀ i, i < (dS S p w).length → gi τ 112 i = nI (dG S p w i)) 88 [some (zr E 102), some (.int (nI p)), some (.int (nI q)), some (.int (nI w)), some (.int (nI n)), some (.int (nI (sg S p q w i))), some (.int (nI 1)), some (.int (nI i))] [.int (nI 0)] τ := by
        intro τ hF hR hno
        refine zs_istore_6_8 90 rfl dX10_setSign_88 rfl rfl ?_
        refine z_iload 92 dX10_setSign_90 rfl rfl ?_
        refine z_iload 94 dX10_setSign_92 rfl rfl ?_
        refine z_if_eq 101 97 dX10_setSign_94 (by decide) rfl (fun h94 => ?_) (fun h94 => ?_)
        · refine z_iconst 102 (v := nI 0) dX10_setSign_101 rfl rfl ?_
          refine z_isub 103 dX10_setSign_102 rfl ?_
          rw [nI_sub (by omega), Nat.sub_zero]
          refine zs_istore_5_8 105 rfl dX10_setSign_103 rfl rfl ?_
          exact stop τ hF hR hno
        · exact absurd rfl h94
      have go1 : ∀ τ, Fr (fun a j => a = 102 ∧ (j = 16 ∨ j = 18) ∨ 112 ≤ a ∧ a ≤ 115) σ τ → RM S τ → sgP S p q w (sg S p q w i) → At E mX10_setSign (d + 6) (qV fun τ => Fr (fun a j => a = 102 ∧ (j = 16 ∨ j = 18) ∨ 112 ≤ a ∧ a ≤ 115) σ τ ∧ RM S τ ∧ gi τ 102 16 = nI (sg S p q w n) ∧ ∀ i, i < (dS S p w).length → gi τ 112 i = nI (dG S p w i)) 88 [some (zr E 102), some (.int (nI p)), some (.int (nI q)), some (.int (nI w)), some (.int (nI n)), some (.int (nI (sg S p q w i))), some (.int (nI 1)), some (.int (nI i))] [.int (nI 1)] τ := by
        intro τ hF hR hye
        have er : sg S p q w (i + 1) = sg S p q w i - 1 := if_pos hye
        have hih := ih (i + 1) (by omega) (by omega) τ hF hR
        rw [er] at hih
        refine zs_istore_6_8 90 rfl dX10_setSign_88 rfl rfl ?_
        refine z_iload 92 dX10_setSign_90 rfl rfl ?_
        refine z_iload 94 dX10_setSign_92 rfl rfl ?_
        refine z_if_eq 101 97 dX10_setSign_94 (by decide) rfl (fun h94 => ?_) (fun h94 => ?_)
        · exact absurd h94 (by decide)
        · refine z_iconst 98 (v := nI 1) dX10_setSign_97 rfl rfl ?_
          refine z_goto 102 dX10_setSign_98 rfl ?_
          refine z_isub 103 dX10_setSign_102 rfl ?_
          rw [nI_sub (by omega)]
          refine zs_istore_5_8 105 rfl dX10_setSign_103 rfl rfl ?_
          refine zs_iinc_7_8_1 108 rfl dX10_setSign_105 rfl rfl ?_
          rw [nI_add]
          refine z_goto 18 dX10_setSign_108 rfl ?_
          exact hih
      by_cases h2 : 2 ≤ sg S p q w i
      · have hl := shN_le hW hq (sg S p q w i - 1) (dG S p w) (some p) hw
        refine z_iload 20 dX10_setSign_18 rfl rfl ?_
        refine z_iload 22 dX10_setSign_20 rfl rfl ?_
        refine z_icmp_ge 111 25 dX10_setSign_22 (by decide) rfl (fun h22 => ?_) (fun h22 => ?_)
        · (try rw [nI_leI (by omega) (by omega)] at h22)
          omega
        · (try rw [nI_leI (by omega) (by omega)] at h22)
          refine z_iload 27 dX10_setSign_25 rfl rfl ?_
          refine z_if_eq 111 30 dX10_setSign_27 (by decide) rfl (fun h27 => ?_) (fun h27 => ?_)
          · exact absurd h27 (by decide)
          · refine z_iload 32 dX10_setSign_30 rfl rfl ?_
            refine z_iconst 33 (v := nI 1) dX10_setSign_32 rfl rfl ?_
            refine z_icmp_le 40 36 dX10_setSign_33 (by decide) rfl (fun h33 => ?_) (fun h33 => ?_)
            · (try rw [nI_leI (by omega) (by omega)] at h33)
              omega
            · (try rw [nI_leI (by omega) (by omega)] at h33)
              refine z_iconst 37 (v := nI 1) dX10_setSign_36 rfl rfl ?_
              refine z_goto 41 dX10_setSign_37 rfl ?_
              refine zs_istore_6_8 43 rfl dX10_setSign_41 rfl rfl ?_
              refine z_iload 45 dX10_setSign_43 rfl rfl ?_
              refine z_if_eq 105 48 dX10_setSign_45 (by decide) rfl (fun h45 => ?_) (fun h45 => ?_)
              · exact absurd h45 (by decide)
              · refine z_aload_n 49 dX10_setSign_48 rfl rfl ?_
                refine z_iload_n 50 dX10_setSign_49 rfl rfl ?_
                refine z_iload_n 51 dX10_setSign_50 rfl rfl ?_
                refine z_cVV2 54 (tX10_drawS hW hR hp hw) kX10_setDrawing dX10_setSign_51 rfl lX10_174 (by first | assumption | rfl) (Nat.le_of_ble_eq_true rfl) ?_
                rintro τ1 ⟨hF1, hX1, hD1, hG1⟩
                refine z_aload_n 55 dX10_setSign_54 rfl rfl ?_
                refine z_cVV0 58 (tX10_seeDrawing (n := (dS S p w).length) (g := dG S p w) hD1 h6 hG1) kX10_seeDrawing dX10_setSign_55 rfl lX10_187 (by first | assumption | rfl) (Nat.le_of_ble_eq_true rfl) ?_
                rintro τ2 ⟨hF2, hD2⟩
                have hX2 : RM S τ2 := hX1.scr hW (hF2.mono (by unfold mS; intros; omega))
                refine z_aload_n 59 dX10_setSign_58 rfl rfl ?_
                refine z_iload 61 dX10_setSign_59 rfl rfl ?_
                refine z_iconst 62 (v := nI 1) dX10_setSign_61 rfl rfl ?_
                refine z_isub 63 dX10_setSign_62 rfl ?_
                rw [nI_sub (by omega)]
                refine pX10_178 66 rfl dX10_setSign_63 rfl ?_
                have hf3 : Fr (fun a j => a = 102 ∧ j = 18) τ2 (si τ2 102 18 (nI (sg S p q w i - 1))) := Fr.rf.si _ ⟨rfl, rfl⟩
                have hX3 : RM S (si τ2 102 18 (nI (sg S p q w i - 1))) := hX2.scr hW (hf3.mono (by unfold mS; intros; omega))
                have hD3 : mDrG (si τ2 102 18 (nI (sg S p q w i - 1))) (sg S p q w i - 1) (dG S p w) := ⟨gi_s1 _ _ _ _, fun j hj => (gi_s2 _ _ (by omega)).trans (hD2.2 j (by omega))⟩
                have hF3 : Fr (fun a j => a = 102 ∧ (j = 16 ∨ j = 18) ∨ 112 ≤ a ∧ a ≤ 115) σ (si τ2 102 18 (nI (sg S p q w i - 1))) := ((hF.tr hF1 (R := fun a j => a = 102 ∧ (j = 16 ∨ j = 18) ∨ 112 ≤ a ∧ a ≤ 115) (fun _ _ h => h) (by intros; omega)).tr hF2 (R := fun a j => a = 102 ∧ (j = 16 ∨ j = 18) ∨ 112 ≤ a ∧ a ≤ 115) (fun _ _ h => h) (by intros; omega)).tr hf3 (fun _ _ h => h) (by intros; omega)
                refine z_aload_n 67 dX10_setSign_66 rfl rfl ?_
                refine z_iload_n 68 dX10_setSign_67 rfl rfl ?_
                refine z_iload_n 69 dX10_setSign_68 rfl rfl ?_
                refine z_cVV2 72 (tX10_sharesS (o := some p) hW hX3 hq hD3 (hpt.sub (by omega) (by omega)) (hX3.by hW hp)) kX10_setShares dX10_setSign_69 rfl lX10_193 (by first | assumption | rfl) (Nat.le_of_ble_eq_true rfl) ?_
                rintro τ4 ⟨hF4, hX4, hS4⟩
                have hF5 : Fr (fun a j => a = 102 ∧ (j = 16 ∨ j = 18) ∨ 112 ≤ a ∧ a ≤ 115) σ τ4 := hF3.tr hF4 (fun _ _ h => h) (by intros; omega)
                refine z_aload_n 73 dX10_setSign_72 rfl rfl ?_
                refine gX10_50 76 rfl dX10_setSign_73 rfl ?_
                refine z_iload_n 77 dX10_setSign_76 rfl rfl ?_
                refine z_ialdn 78 dX10_setSign_77 rfl (by first | assumption | rfl) (by omega) ?_
                rw [hS4 w hw, show hSh (gSS S q (sg S p q w i - 1) (dG S p w) (some p)) (sBw S 0) (fv S q) w = shN S q (sg S p q w i - 1) (dG S p w) (some p) w from rfl]
                refine z_bipush 80 (v := nI 12) dX10_setSign_78 rfl rfl ?_
                refine z_icmp_lt 87 83 dX10_setSign_80 (by decide) rfl (fun h80 => ?_) (fun h80 => ?_)
                · (try rw [nI_ltI (by omega) (by omega)] at h80)
                  have hno : ¬ sgP S p q w (sg S p q w i) := fun z => by (have := z.2; omega)
                  refine z_iconst 88 (v := nI 0) dX10_setSign_87 rfl rfl ?_
                  first | exact go0 τ4 hF5 hX4 hno | exact go1 τ4 hF5 hX4 ⟨h2, by omega⟩
                · (try rw [nI_ltI (by omega) (by omega)] at h80)
                  refine z_iconst 84 (v := nI 1) dX10_setSign_83 rfl rfl ?_
                  refine z_goto 88 dX10_setSign_84 rfl ?_
                  first | exact go0 τ4 hF5 hX4 hno | exact go1 τ4 hF5 hX4 ⟨h2, by omega⟩
      · have hno : ¬ sgP S p q w (sg S p q w i) := fun z => h2 z.1
        refine z_iload 20 dX10_setSign_18 rfl rfl ?_
        refine z_iload 22 dX10_setSign_20 rfl rfl ?_
        refine z_icmp_ge 111 25 dX10_setSign_22 (by decide) rfl (fun h22 => ?_) (fun h22 => ?_)
        · (try rw [nI_leI (by omega) (by omega)] at h22)
          omega
        · (try rw [nI_leI (by omega) (by omega)] at h22)
          refine z_iload 27 dX10_setSign_25 rfl rfl ?_
          refine z_if_eq 111 30 dX10_setSign_27 (by decide) rfl (fun h27 => ?_) (fun h27 => ?_)
          · exact absurd h27 (by decide)
          · refine z_iload 32 dX10_setSign_30 rfl rfl ?_
            refine z_iconst 33 (v := nI 1) dX10_setSign_32 rfl rfl ?_
            refine z_icmp_le 40 36 dX10_setSign_33 (by decide) rfl (fun h33 => ?_) (fun h33 => ?_)
            · (try rw [nI_leI (by omega) (by omega)] at h33)
              refine z_iconst 41 (v := nI 0) dX10_setSign_40 rfl rfl ?_
              refine zs_istore_6_8 43 rfl dX10_setSign_41 rfl rfl ?_
              refine z_iload 45 dX10_setSign_43 rfl rfl ?_
              refine z_if_eq 105 48 dX10_setSign_45 (by decide) rfl (fun h45 => ?_) (fun h45 => ?_)
              · exact stop τ hF hR hno
              · exact absurd rfl h45
            · (try rw [nI_leI (by omega) (by omega)] at h33)
              omega
  refine z_aload_n 1 dX10_setSign_0 rfl rfl ?_
  refine z_iload_n 2 dX10_setSign_1 rfl rfl ?_
  refine z_iload_n 3 dX10_setSign_2 rfl rfl ?_
  refine z_cVV2 6 (tX10_drawS hW hX hp hw) kX10_setDrawing dX10_setSign_3 rfl lX10_174 (by first | assumption | rfl) (Nat.le_of_ble_eq_true rfl) ?_
  rintro τ1 ⟨hF1, hX1, hD1, hG1⟩
  refine z_aload_n 7 dX10_setSign_6 rfl rfl ?_
  refine gX10_171 10 rfl dX10_setSign_7 rfl ?_
  rw [hD1]
  refine zs_istore_5_8 12 rfl dX10_setSign_10 rfl rfl ?_
  refine z_iconst 13 (v := nI 1) dX10_setSign_12 rfl rfl ?_
  refine zs_istore_6_8 15 rfl dX10_setSign_13 rfl rfl ?_
  refine z_iconst 16 (v := nI 0) dX10_setSign_15 rfl rfl ?_
  refine zs_istore_7_8 18 rfl dX10_setSign_16 rfl rfl ?_
  exact loop 0 (Nat.zero_le _) τ1 (hF1.mono (by intros; omega)) hX1
set_option maxRecDepth 20000 in
theorem tX10_sign {E : zE} {d : Nat} {σ : zM} {S : sS} {p q w n r : Int32} (hW : WF S) (hX : RM S σ) : Ret E mX10_sign (d + 7) [zr E 102, .int p, .int q, .int w, .int n, .int r] σ (qM σ (spSign S p q w n r)) := by
  have h8 := hW.2.1.1
  have hb8 := bw_le hW (show 0 < 2 by omega)
  by_cases hA : ¬ sgOK S p q w n r
  · refine Ret.of [some (zr E 102), some (.int p), some (.int q), some (.int w), some (.int n), some (.int r)] (by decide +kernel) (Nat.le_of_ble_eq_true rfl) rfl ?_
    refine z_aload_n 1 dX10_sign_0 rfl rfl ?_
    refine z_iload_n 2 dX10_sign_1 rfl rfl ?_
    refine z_cVI1 5 (tX10_isPlayer (by assumption) (by assumption)) kX10_isPlayer dX10_sign_2 rfl lX10_162 (by first | assumption | rfl) (Nat.le_of_ble_eq_true rfl) ?_
    rintro _ _ ⟨e1, e2⟩
    replace e1 := e1.symm
    replace e2 := e2.symm
    subst e1
    subst e2
    refine z_ifb_eq 48 8 dX10_sign_5 (by decide) rfl (fun h5 => ?_) (fun h5 => ?_)
    · refine z_iconst 49 (v := (-1)) dX10_sign_48 rfl rfl ?_
      refine z_ri dX10_sign_49 rfl ?_
      exact qm0 (if_pos hA) hX Fr.rf
    · refine z_aload_n 9 dX10_sign_8 rfl rfl ?_
      refine z_iload_n 10 dX10_sign_9 rfl rfl ?_
      refine z_cVI1 13 (tX10_isPlayer (by assumption) (by assumption)) kX10_isPlayer dX10_sign_10 rfl lX10_162 (by first | assumption | rfl) (Nat.le_of_ble_eq_true rfl) ?_
      rintro _ _ ⟨e1, e2⟩
      replace e1 := e1.symm
      replace e2 := e2.symm
      subst e1
      subst e2
      refine z_ifb_eq 48 16 dX10_sign_13 (by decide) rfl (fun h13 => ?_) (fun h13 => ?_)
      · refine z_iconst 49 (v := (-1)) dX10_sign_48 rfl rfl ?_
        refine z_ri dX10_sign_49 rfl ?_
        exact qm0 (if_pos hA) hX Fr.rf
      · refine z_iload_n 17 dX10_sign_16 rfl rfl ?_
        refine z_iload_n 18 dX10_sign_17 rfl rfl ?_
        refine z_icmp_eq 48 21 dX10_sign_18 (by decide) rfl (fun h18 => ?_) (fun h18 => ?_)
        · refine z_iconst 49 (v := (-1)) dX10_sign_48 rfl rfl ?_
          refine z_ri dX10_sign_49 rfl ?_
          exact qm0 (if_pos hA) hX Fr.rf
        · refine z_aload_n 22 dX10_sign_21 rfl rfl ?_
          refine z_iload_n 23 dX10_sign_22 rfl rfl ?_
          refine z_cVI1 26 (tX10_isWord (by assumption) (by assumption)) kX10_isWord dX10_sign_23 rfl lX10_151 (by first | assumption | rfl) (Nat.le_of_ble_eq_true rfl) ?_
          rintro _ _ ⟨e1, e2⟩
          replace e1 := e1.symm
          replace e2 := e2.symm
          subst e1
          subst e2
          refine z_ifb_eq 48 29 dX10_sign_26 (by decide) rfl (fun h26 => ?_) (fun h26 => ?_)
          · refine z_iconst 49 (v := (-1)) dX10_sign_48 rfl rfl ?_
            refine z_ri dX10_sign_49 rfl ?_
            exact qm0 (if_pos hA) hX Fr.rf
          · refine z_iload 31 dX10_sign_29 rfl rfl ?_
            refine z_iconst 32 (v := nI 0) dX10_sign_31 rfl rfl ?_
            refine z_bipush 34 (v := nI 9) dX10_sign_32 rfl rfl ?_
            refine z_cSI3 37 (tX10_in) kX10_in dX10_sign_34 rfl lX10_91 (Nat.le_of_ble_eq_true rfl) ?_
            rintro _ _ ⟨e1, e2⟩
            replace e1 := e1.symm
            replace e2 := e2.symm
            subst e1
            subst e2
            rw [in_k (by decide)]
            refine z_ifb_eq 48 40 dX10_sign_37 (by decide) rfl (fun h37 => ?_) (fun h37 => ?_)
            · refine z_iconst 49 (v := (-1)) dX10_sign_48 rfl rfl ?_
              refine z_ri dX10_sign_49 rfl ?_
              exact qm0 (if_pos hA) hX Fr.rf
            · refine z_iload 42 dX10_sign_40 rfl rfl ?_
              refine z_cSI1 45 (tX10_isRow) kX10_isRow dX10_sign_42 rfl lX10_95 (Nat.le_of_ble_eq_true rfl) ?_
              rintro _ _ ⟨e1, e2⟩
              replace e1 := e1.symm
              replace e2 := e2.symm
              subst e1
              subst e2
              refine z_ifb_ne 50 48 dX10_sign_45 (by decide) rfl (fun h45 => ?_) (fun h45 => ?_)
              · exact absurd ⟨h5, h13, h18, h26, h37, h45⟩ hA
              · refine z_iconst 49 (v := (-1)) dX10_sign_48 rfl rfl ?_
                refine z_ri dX10_sign_49 rfl ?_
                exact qm0 (if_pos hA) hX Fr.rf
  have e0 : spSign S p q w n r = _ := if_neg hA
  have hA := Classical.not_not.mp hA
  have hA' := hA
  obtain ⟨a1, a2, a3, a4, a5, a6⟩ := hA
  obtain ⟨p, hp, rfl⟩ := inN_of a1
  obtain ⟨q, hq, rfl⟩ := inN_of a2
  obtain ⟨w, hw, rfl⟩ := inN_of a4
  obtain ⟨n, hn, rfl⟩ := inN_of a5
  obtain ⟨r, hr, rfl⟩ := inN_of a6
  obtain ⟨b1, b2, b3, b4, b5, b6⟩ := hA'
  rw [zx_nI (by omega), zx_nI (by omega), zx_nI (by omega), zx_nI (by omega), zx_nI (by omega)] at e0
  have h6 := (dS_pts hW hp hw).2.1
  have hbd := sg_bd hW (q := q) hp hw n
  refine Ret.of [some (zr E 102), some (.int (nI p)), some (.int (nI q)), some (.int (nI w)), some (.int (nI n)), some (.int (nI r))] (by decide +kernel) (Nat.le_of_ble_eq_true rfl) rfl ?_
  refine z_aload_n 1 dX10_sign_0 rfl rfl ?_
  refine z_iload_n 2 dX10_sign_1 rfl rfl ?_
  refine z_cVI1 5 (tX10_isPlayer (by assumption) (by assumption)) kX10_isPlayer dX10_sign_2 rfl lX10_162 (by first | assumption | rfl) (Nat.le_of_ble_eq_true rfl) ?_
  rintro _ _ ⟨e1, e2⟩
  replace e1 := e1.symm
  replace e2 := e2.symm
  subst e1
  subst e2
  refine z_ifb_eq 48 8 dX10_sign_5 (by decide) rfl (fun h5 => ?_) (fun h5 => ?_)
  · exact absurd b1 h5
  · refine z_aload_n 9 dX10_sign_8 rfl rfl ?_
    refine z_iload_n 10 dX10_sign_9 rfl rfl ?_
    refine z_cVI1 13 (tX10_isPlayer (by assumption) (by assumption)) kX10_isPlayer dX10_sign_10 rfl lX10_162 (by first | assumption | rfl) (Nat.le_of_ble_eq_true rfl) ?_
    rintro _ _ ⟨e1, e2⟩
    replace e1 := e1.symm
    replace e2 := e2.symm
    subst e1
    subst e2
    refine z_ifb_eq 48 16 dX10_sign_13 (by decide) rfl (fun h13 => ?_) (fun h13 => ?_)
    · exact absurd b2 h13
    · refine z_iload_n 17 dX10_sign_16 rfl rfl ?_
      refine z_iload_n 18 dX10_sign_17 rfl rfl ?_
      refine z_icmp_eq 48 21 dX10_sign_18 (by decide) rfl (fun h18 => ?_) (fun h18 => ?_)
      · exact absurd h18 b3
      · refine z_aload_n 22 dX10_sign_21 rfl rfl ?_
        refine z_iload_n 23 dX10_sign_22 rfl rfl ?_
        refine z_cVI1 26 (tX10_isWord (by assumption) (by assumption)) kX10_isWord dX10_sign_23 rfl lX10_151 (by first | assumption | rfl) (Nat.le_of_ble_eq_true rfl) ?_
        rintro _ _ ⟨e1, e2⟩
        replace e1 := e1.symm
        replace e2 := e2.symm
        subst e1
        subst e2
        refine z_ifb_eq 48 29 dX10_sign_26 (by decide) rfl (fun h26 => ?_) (fun h26 => ?_)
        · exact absurd b4 h26
        · refine z_iload 31 dX10_sign_29 rfl rfl ?_
          refine z_iconst 32 (v := nI 0) dX10_sign_31 rfl rfl ?_
          refine z_bipush 34 (v := nI 9) dX10_sign_32 rfl rfl ?_
          refine z_cSI3 37 (tX10_in) kX10_in dX10_sign_34 rfl lX10_91 (Nat.le_of_ble_eq_true rfl) ?_
          rintro _ _ ⟨e1, e2⟩
          replace e1 := e1.symm
          replace e2 := e2.symm
          subst e1
          subst e2
          rw [in_k (by decide)]
          refine z_ifb_eq 48 40 dX10_sign_37 (by decide) rfl (fun h37 => ?_) (fun h37 => ?_)
          · exact absurd b5 h37
          · refine z_iload 42 dX10_sign_40 rfl rfl ?_
            refine z_cSI1 45 (tX10_isRow) kX10_isRow dX10_sign_42 rfl lX10_95 (Nat.le_of_ble_eq_true rfl) ?_
            rintro _ _ ⟨e1, e2⟩
            replace e1 := e1.symm
            replace e2 := e2.symm
            subst e1
            subst e2
            refine z_ifb_ne 50 48 dX10_sign_45 (by decide) rfl (fun h45 => ?_) (fun h45 => ?_)
            · refine z_aload_n 51 dX10_sign_50 rfl rfl ?_
              refine z_iload_n 52 dX10_sign_51 rfl rfl ?_
              refine z_iload_n 53 dX10_sign_52 rfl rfl ?_
              refine z_iload_n 54 dX10_sign_53 rfl rfl ?_
              refine z_iload 56 dX10_sign_54 rfl rfl ?_
              refine z_cVV4 59 (tX10_setSign hW hX hp hq hw hn) kX10_setSign dX10_sign_56 rfl lX10_325 (by first | assumption | rfl) (Nat.le_of_ble_eq_true rfl) ?_
              rintro τ1 ⟨hF1, hX1, hD1, hG1⟩
              refine z_aload_n 60 dX10_sign_59 rfl rfl ?_
              refine z_iload 62 dX10_sign_60 rfl rfl ?_
              refine z_aload_n 63 dX10_sign_62 rfl rfl ?_
              refine gX10_171 66 rfl dX10_sign_63 rfl ?_
              rw [hD1]
              refine z_cVI2 69 (tX10_rowOf (g := fun i => nI (dG S p w i)) hr (by omega) (fun j hj => hG1 j (by omega))) kX10_rowOf dX10_sign_66 rfl lX10_203 (by first | assumption | rfl) (Nat.le_of_ble_eq_true rfl) ?_
              rintro _ τ2 ⟨e2, hF2, hS2⟩
              subst e2
              refine z_ri dX10_sign_69 rfl ?_
              exact qm0 e0 (hX1.R hW hF2 hr hS2) (hF1.tr hF2 (by intros; omega) (by intros; omega))
            · exact absurd b6 h45
/-! stranger -/
def stG (S : sS) (p q w o i : Nat) : Nat := hG (gSS S o (sg S p q w i) (dG S p w) none) (sBw S 0) (fv S o)
def stR (S : sS) (p q w o : Nat) : Nat → Nat → Int32 × sS
  | 0, _ => (-9, S)
  | f + 1, i => if stG S p q w o i = w then stR S p q w o f (i + 1) else sAsk S (nI (stG S p q w o i)) (nI i)
abbrev stOK (S : sS) (p q w o : Int32) : Prop := inN p (sPc S) ∧ inN q (sPc S) ∧ inN o (sPc S) ∧ inN w (sBw S 0) ∧ ¬ p = q ∧ ¬ p = o ∧ ¬ q = o
def spStranger (S : sS) (p q w o : Int32) : Int32 × sS := if ¬ stOK S p q w o then (-1, S) else stR S (zx p) (zx q) (zx w) (zx o) 10 0
theorem stR_y {S : sS} {p q w o i : Nat} (hi : i < 10) (h : stG S p q w o i = w) : stR S p q w o (10 - i) i = stR S p q w o (10 - (i + 1)) (i + 1) := by
  rw [show 10 - i = (10 - (i + 1)) + 1 by omega]
  exact if_pos h
theorem stR_n {S : sS} {p q w o i : Nat} (hi : i < 10) (h : ¬ stG S p q w o i = w) : stR S p q w o (10 - i) i = sAsk S (nI (stG S p q w o i)) (nI i) := by
  rw [show 10 - i = (10 - (i + 1)) + 1 by omega]
  exact if_neg h
set_option maxRecDepth 20000 in
theorem tX9_stranger {E : zE} {d : Nat} {σ : zM} {S : sS} {p q w o : Int32} (hW : WF S) (hX : RX S σ) : Ret E mX9_stranger (d + 4) [zr E 0, .int p, .int q, .int w, .int o] σ (qX σ (spStranger S p q w o)) := by
  have h8 := hW.2.1.1
  have hb8 := bw_le hW (show 0 < 2 by omega)
  by_cases hA : ¬ stOK S p q w o
  · refine Ret.of [some (zr E 0), some (.int p), some (.int q), some (.int w), some (.int o), none] (by decide +kernel) (Nat.le_of_ble_eq_true rfl) rfl ?_
    refine z_aload_n 1 dX9_stranger_0 rfl rfl ?_
    refine z_iload_n 2 dX9_stranger_1 rfl rfl ?_
    refine z_cVI1 5 (tX9_isPl (by assumption) (by assumption)) kX9_isPlayer dX9_stranger_2 rfl lX9_176 (by first | assumption | rfl) (Nat.le_of_ble_eq_true rfl) ?_
    rintro _ _ ⟨e1, e2⟩
    replace e1 := e1.symm
    replace e2 := e2.symm
    subst e1
    subst e2
    refine z_ifb_eq 33 8 dX9_stranger_5 (by decide) rfl (fun h5 => ?_) (fun h5 => ?_)
    · refine z_iconst 34 (v := (-1)) dX9_stranger_33 rfl rfl ?_
      refine z_ri dX9_stranger_34 rfl ?_
      exact qx0 (if_pos hA) hX Fr.rf
    · refine z_aload_n 9 dX9_stranger_8 rfl rfl ?_
      refine z_iload_n 10 dX9_stranger_9 rfl rfl ?_
      refine z_cVI1 13 (tX9_isPl (by assumption) (by assumption)) kX9_isPlayer dX9_stranger_10 rfl lX9_176 (by first | assumption | rfl) (Nat.le_of_ble_eq_true rfl) ?_
      rintro _ _ ⟨e1, e2⟩
      replace e1 := e1.symm
      replace e2 := e2.symm
      subst e1
      subst e2
      refine z_ifb_eq 33 16 dX9_stranger_13 (by decide) rfl (fun h13 => ?_) (fun h13 => ?_)
      · refine z_iconst 34 (v := (-1)) dX9_stranger_33 rfl rfl ?_
        refine z_ri dX9_stranger_34 rfl ?_
        exact qx0 (if_pos hA) hX Fr.rf
      · refine z_aload_n 17 dX9_stranger_16 rfl rfl ?_
        refine z_iload 19 dX9_stranger_17 rfl rfl ?_
        refine z_cVI1 22 (tX9_isPl (by assumption) (by assumption)) kX9_isPlayer dX9_stranger_19 rfl lX9_176 (by first | assumption | rfl) (Nat.le_of_ble_eq_true rfl) ?_
        rintro _ _ ⟨e1, e2⟩
        replace e1 := e1.symm
        replace e2 := e2.symm
        subst e1
        subst e2
        refine z_ifb_eq 33 25 dX9_stranger_22 (by decide) rfl (fun h22 => ?_) (fun h22 => ?_)
        · refine z_iconst 34 (v := (-1)) dX9_stranger_33 rfl rfl ?_
          refine z_ri dX9_stranger_34 rfl ?_
          exact qx0 (if_pos hA) hX Fr.rf
        · refine z_aload_n 26 dX9_stranger_25 rfl rfl ?_
          refine z_iload_n 27 dX9_stranger_26 rfl rfl ?_
          refine z_cVI1 30 (tX9_isWord (by assumption) (by assumption)) kX9_isWord dX9_stranger_27 rfl lX9_165 (by first | assumption | rfl) (Nat.le_of_ble_eq_true rfl) ?_
          rintro _ _ ⟨e1, e2⟩
          replace e1 := e1.symm
          replace e2 := e2.symm
          subst e1
          subst e2
          refine z_ifb_ne 35 33 dX9_stranger_30 (by decide) rfl (fun h30 => ?_) (fun h30 => ?_)
          · refine z_iload_n 36 dX9_stranger_35 rfl rfl ?_
            refine z_iload_n 37 dX9_stranger_36 rfl rfl ?_
            refine z_icmp_eq 52 40 dX9_stranger_37 (by decide) rfl (fun h37 => ?_) (fun h37 => ?_)
            · refine z_iconst 53 (v := (-1)) dX9_stranger_52 rfl rfl ?_
              refine z_ri dX9_stranger_53 rfl ?_
              exact qx0 (if_pos hA) hX Fr.rf
            · refine z_iload_n 41 dX9_stranger_40 rfl rfl ?_
              refine z_iload 43 dX9_stranger_41 rfl rfl ?_
              refine z_icmp_eq 52 46 dX9_stranger_43 (by decide) rfl (fun h43 => ?_) (fun h43 => ?_)
              · refine z_iconst 53 (v := (-1)) dX9_stranger_52 rfl rfl ?_
                refine z_ri dX9_stranger_53 rfl ?_
                exact qx0 (if_pos hA) hX Fr.rf
              · refine z_iload_n 47 dX9_stranger_46 rfl rfl ?_
                refine z_iload 49 dX9_stranger_47 rfl rfl ?_
                refine z_icmp_ne 54 52 dX9_stranger_49 (by decide) rfl (fun h49 => ?_) (fun h49 => ?_)
                · exact absurd ⟨h5, h13, h22, h30, h37, h43, h49⟩ hA
                · refine z_iconst 53 (v := (-1)) dX9_stranger_52 rfl rfl ?_
                  refine z_ri dX9_stranger_53 rfl ?_
                  exact qx0 (if_pos hA) hX Fr.rf
          · refine z_iconst 34 (v := (-1)) dX9_stranger_33 rfl rfl ?_
            refine z_ri dX9_stranger_34 rfl ?_
            exact qx0 (if_pos hA) hX Fr.rf
  have e0 : spStranger S p q w o = _ := if_neg hA
  have hA := Classical.not_not.mp hA
  have hA' := hA
  obtain ⟨a1, a2, a3, a4, a5, a6, a7⟩ := hA
  obtain ⟨p, hp, rfl⟩ := inN_of a1
  obtain ⟨q, hq, rfl⟩ := inN_of a2
  obtain ⟨o, ho, rfl⟩ := inN_of a3
  obtain ⟨w, hw, rfl⟩ := inN_of a4
  obtain ⟨b1, b2, b3, b4, b5, b6, b7⟩ := hA'
  rw [zx_nI (by omega), zx_nI (by omega), zx_nI (by omega), zx_nI (by omega)] at e0
  have hcp := kd_p (show p < 8 by omega)
  have hco := kd_p (show o < 8 by omega)
  have hpt : PtsOK (dS S p w).length (dG S p w) := dS_pts hW hp hw
  have loop : ∀ i, i ≤ 10 → ∀ τ, spStranger S (nI p) (nI q) (nI w) (nI o) = stR S p q w o (10 - i) i → Fr (fun x y => 8 ≤ x ∧ x ≤ 12) σ τ → RX S τ → DrG τ 8 (sg S p q w i) (dG S p w) → At E mX9_stranger (d + 4) (qX σ (spStranger S (nI p) (nI q) (nI w) (nI o))) 71 [some (zr E 0), some (.int (nI p)), some (.int (nI q)), some (.int (nI w)), some (.int (nI o)), some (.int (nI i))] [] τ := by
    refine z_up (fun i hi ih τ e0 hF hR hD => ?_)
    by_cases hie : i = 10
    · subst hie
      refine z_iload 73 dX9_stranger_71 rfl rfl ?_
      refine z_bipush 75 (v := nI 9) dX9_stranger_73 rfl rfl ?_
      refine z_icmp_gt 139 78 dX9_stranger_75 (by decide) rfl (fun h75 => ?_) (fun h75 => ?_)
      · (try rw [nI_ltI (by omega) (by omega)] at h75)
        refine z_bipush 141 (v := (-9)) dX9_stranger_139 rfl rfl ?_
        refine z_ri dX9_stranger_141 rfl ?_
        exact qx0 e0 hR (hF.mono (by intros; omega))
      · (try rw [nI_ltI (by omega) (by omega)] at h75)
        omega
    · have hbd := sg_bd hW (q := q) hp hw i
      have hgl : stG S p q w o i < sBw S 0 := hG_lt (plOK hW ho).2.2.2.2
      refine z_iload 73 dX9_stranger_71 rfl rfl ?_
      refine z_bipush 75 (v := nI 9) dX9_stranger_73 rfl rfl ?_
      refine z_icmp_gt 139 78 dX9_stranger_75 (by decide) rfl (fun h75 => ?_) (fun h75 => ?_)
      · (try rw [nI_ltI (by omega) (by omega)] at h75)
        omega
      · (try rw [nI_ltI (by omega) (by omega)] at h75)
        refine z_aload_n 79 dX9_stranger_78 rfl rfl ?_
        refine gX9_53 82 rfl dX9_stranger_79 rfl ?_
        refine z_aload_n 83 dX9_stranger_82 rfl rfl ?_
        refine gX9_26 86 rfl dX9_stranger_83 rfl ?_
        refine z_iload 88 dX9_stranger_86 rfl rfl ?_
        refine z_aald4 89 dX9_stranger_88 rfl (by omega) ?_
        refine z_aload_n 90 dX9_stranger_89 rfl rfl ?_
        refine gX9_46 93 rfl dX9_stranger_90 rfl ?_
        refine z_null 94 dX9_stranger_93 rfl ?_
        refine z_cVV3 97 (tX6_reckonS (o := none) hW hR ho hD (hpt.sub (by omega) (by omega)) ByV.none) kX6_reckon dX9_stranger_94 rfl lX9_225 (by first | assumption | rfl) (Nat.le_of_ble_eq_true rfl) ?_
        rintro τ1 ⟨hF1, hX1, hS1⟩
        have hF2 : Fr (fun x y => 8 ≤ x ∧ x ≤ 12) σ τ1 := hF.tr hF1 (fun _ _ h => h) (by intros; omega)
        have hg : gi τ1 10 3 = nI (stG S p q w o i) := hS1.2.1
        refine z_aload_n 98 dX9_stranger_97 rfl rfl ?_
        refine gX9_53 101 rfl dX9_stranger_98 rfl ?_
        refine gX9_201 104 rfl dX9_stranger_101 rfl (by first | assumption | rfl) ?_
        rw [hg]
        refine z_iload_n 105 dX9_stranger_104 rfl rfl ?_
        refine z_icmp_eq 126 108 dX9_stranger_105 (by decide) rfl (fun h105 => ?_) (fun h105 => ?_)
        · (try rw [nI_eq (by omega) (by omega)] at h105)
          rw [stR_y (by omega) h105] at e0
          refine z_aload_n 127 dX9_stranger_126 rfl rfl ?_
          refine z_iload_n 128 dX9_stranger_127 rfl rfl ?_
          refine z_iload_n 129 dX9_stranger_128 rfl rfl ?_
          refine z_iload_n 130 dX9_stranger_129 rfl rfl ?_
          refine z_cVV3 133 (tX9_shortenSign hW hX1 hp hq hw (hD.fr hF1 (by intros; omega) (by intros; omega))) kX9_shortenSign dX9_stranger_130 rfl lX9_356 (by first | assumption | rfl) (Nat.le_of_ble_eq_true rfl) ?_
          rintro τ2 ⟨hF3, hX2, hD2⟩
          refine zs_iinc_5_6_1 136 rfl dX9_stranger_133 rfl rfl ?_
          rw [nI_add]
          refine z_goto 71 dX9_stranger_136 rfl ?_
          exact ih (i + 1) (by omega) (by omega) τ2 e0 (hF2.tr hF3 (fun _ _ h => h) (fun _ _ h => h)) hX2 hD2
        · (try rw [nI_eq (by omega) (by omega)] at h105)
          rw [stR_n (by omega) h105] at e0
          refine z_aload_n 109 dX9_stranger_108 rfl rfl ?_
          refine gX9_39 112 rfl dX9_stranger_109 rfl ?_
          refine z_aload_n 113 dX9_stranger_112 rfl rfl ?_
          refine gX9_53 116 rfl dX9_stranger_113 rfl ?_
          refine gX9_201 119 rfl dX9_stranger_116 rfl (by first | assumption | rfl) ?_
          rw [hg]
          refine z_cVI1 122 (tX0_ask) kX0_ask dX9_stranger_119 rfl lX9_104 (by first | assumption | rfl) (Nat.le_of_ble_eq_true rfl) ?_
          rintro _ _ ⟨e1, e2⟩
          replace e1 := e1.symm
          replace e2 := e2.symm
          subst e1
          subst e2
          refine z_pop 123 dX9_stranger_122 rfl rfl ?_
          refine z_iload 125 dX9_stranger_123 rfl rfl ?_
          refine z_ri dX9_stranger_125 rfl ?_
          exact qxa hW e0 hX1 (hF2.mono (by intros; omega))
  refine Ret.of [some (zr E 0), some (.int (nI p)), some (.int (nI q)), some (.int (nI w)), some (.int (nI o)), none] (by decide +kernel) (Nat.le_of_ble_eq_true rfl) rfl ?_
  refine z_aload_n 1 dX9_stranger_0 rfl rfl ?_
  refine z_iload_n 2 dX9_stranger_1 rfl rfl ?_
  refine z_cVI1 5 (tX9_isPl (by assumption) (by assumption)) kX9_isPlayer dX9_stranger_2 rfl lX9_176 (by first | assumption | rfl) (Nat.le_of_ble_eq_true rfl) ?_
  rintro _ _ ⟨e1, e2⟩
  replace e1 := e1.symm
  replace e2 := e2.symm
  subst e1
  subst e2
  refine z_ifb_eq 33 8 dX9_stranger_5 (by decide) rfl (fun h5 => ?_) (fun h5 => ?_)
  · exact absurd b1 h5
  · refine z_aload_n 9 dX9_stranger_8 rfl rfl ?_
    refine z_iload_n 10 dX9_stranger_9 rfl rfl ?_
    refine z_cVI1 13 (tX9_isPl (by assumption) (by assumption)) kX9_isPlayer dX9_stranger_10 rfl lX9_176 (by first | assumption | rfl) (Nat.le_of_ble_eq_true rfl) ?_
    rintro _ _ ⟨e1, e2⟩
    replace e1 := e1.symm
    replace e2 := e2.symm
    subst e1
    subst e2
    refine z_ifb_eq 33 16 dX9_stranger_13 (by decide) rfl (fun h13 => ?_) (fun h13 => ?_)
    · exact absurd b2 h13
    · refine z_aload_n 17 dX9_stranger_16 rfl rfl ?_
      refine z_iload 19 dX9_stranger_17 rfl rfl ?_
      refine z_cVI1 22 (tX9_isPl (by assumption) (by assumption)) kX9_isPlayer dX9_stranger_19 rfl lX9_176 (by first | assumption | rfl) (Nat.le_of_ble_eq_true rfl) ?_
      rintro _ _ ⟨e1, e2⟩
      replace e1 := e1.symm
      replace e2 := e2.symm
      subst e1
      subst e2
      refine z_ifb_eq 33 25 dX9_stranger_22 (by decide) rfl (fun h22 => ?_) (fun h22 => ?_)
      · exact absurd b3 h22
      · refine z_aload_n 26 dX9_stranger_25 rfl rfl ?_
        refine z_iload_n 27 dX9_stranger_26 rfl rfl ?_
        refine z_cVI1 30 (tX9_isWord (by assumption) (by assumption)) kX9_isWord dX9_stranger_27 rfl lX9_165 (by first | assumption | rfl) (Nat.le_of_ble_eq_true rfl) ?_
        rintro _ _ ⟨e1, e2⟩
        replace e1 := e1.symm
        replace e2 := e2.symm
        subst e1
        subst e2
        refine z_ifb_ne 35 33 dX9_stranger_30 (by decide) rfl (fun h30 => ?_) (fun h30 => ?_)
        · refine z_iload_n 36 dX9_stranger_35 rfl rfl ?_
          refine z_iload_n 37 dX9_stranger_36 rfl rfl ?_
          refine z_icmp_eq 52 40 dX9_stranger_37 (by decide) rfl (fun h37 => ?_) (fun h37 => ?_)
          · exact absurd h37 b5
          · refine z_iload_n 41 dX9_stranger_40 rfl rfl ?_
            refine z_iload 43 dX9_stranger_41 rfl rfl ?_
            refine z_icmp_eq 52 46 dX9_stranger_43 (by decide) rfl (fun h43 => ?_) (fun h43 => ?_)
            · exact absurd h43 b6
            · refine z_iload_n 47 dX9_stranger_46 rfl rfl ?_
              refine z_iload 49 dX9_stranger_47 rfl rfl ?_
              refine z_icmp_ne 54 52 dX9_stranger_49 (by decide) rfl (fun h49 => ?_) (fun h49 => ?_)
              · refine z_aload_n 55 dX9_stranger_54 rfl rfl ?_
                refine gX9_46 58 rfl dX9_stranger_55 rfl ?_
                refine z_aload_n 59 dX9_stranger_58 rfl rfl ?_
                refine gX9_26 62 rfl dX9_stranger_59 rfl ?_
                refine z_iload_n 63 dX9_stranger_62 rfl rfl ?_
                refine z_aald4 64 dX9_stranger_63 rfl (by omega) ?_
                refine z_iload_n 65 dX9_stranger_64 rfl rfl ?_
                refine z_cVV2 68 (tX2_drawS hW hX hp hw) kX2_drawBy dX9_stranger_65 rfl lX9_185 (by first | assumption | rfl) (Nat.le_of_ble_eq_true rfl) ?_
                rintro τ1 ⟨hF1, hX1, hD1⟩
                refine z_iconst 69 (v := nI 0) dX9_stranger_68 rfl rfl ?_
                refine zs_istore_5_6 71 rfl dX9_stranger_69 rfl rfl ?_
                exact loop 0 (Nat.zero_le _) τ1 e0 (hF1.mono (by intros; omega)) hX1 hD1
              · exact absurd h49 b7
        · exact absurd b4 h30
set_option maxRecDepth 20000 in
theorem tX10_stranger {E : zE} {d : Nat} {σ : zM} {S : sS} {p q w o : Int32} (hW : WF S) (hX : RM S σ) : Ret E mX10_stranger (d + 7) [zr E 102, .int p, .int q, .int w, .int o] σ (qM σ (spStranger S p q w o)) := by
  have h8 := hW.2.1.1
  have hb8 := bw_le hW (show 0 < 2 by omega)
  by_cases hA : ¬ stOK S p q w o
  · refine Ret.of [some (zr E 102), some (.int p), some (.int q), some (.int w), some (.int o), none] (by decide +kernel) (Nat.le_of_ble_eq_true rfl) rfl ?_
    refine z_aload_n 1 dX10_stranger_0 rfl rfl ?_
    refine z_iload_n 2 dX10_stranger_1 rfl rfl ?_
    refine z_cVI1 5 (tX10_isPlayer (by assumption) (by assumption)) kX10_isPlayer dX10_stranger_2 rfl lX10_162 (by first | assumption | rfl) (Nat.le_of_ble_eq_true rfl) ?_
    rintro _ _ ⟨e1, e2⟩
    replace e1 := e1.symm
    replace e2 := e2.symm
    subst e1
    subst e2
    refine z_ifb_eq 50 8 dX10_stranger_5 (by decide) rfl (fun h5 => ?_) (fun h5 => ?_)
    · refine z_iconst 51 (v := (-1)) dX10_stranger_50 rfl rfl ?_
      refine z_ri dX10_stranger_51 rfl ?_
      exact qm0 (if_pos hA) hX Fr.rf
    · refine z_aload_n 9 dX10_stranger_8 rfl rfl ?_
      refine z_iload_n 10 dX10_stranger_9 rfl rfl ?_
      refine z_cVI1 13 (tX10_isPlayer (by assumption) (by assumption)) kX10_isPlayer dX10_stranger_10 rfl lX10_162 (by first | assumption | rfl) (Nat.le_of_ble_eq_true rfl) ?_
      rintro _ _ ⟨e1, e2⟩
      replace e1 := e1.symm
      replace e2 := e2.symm
      subst e1
      subst e2
      refine z_ifb_eq 50 16 dX10_stranger_13 (by decide) rfl (fun h13 => ?_) (fun h13 => ?_)
      · refine z_iconst 51 (v := (-1)) dX10_stranger_50 rfl rfl ?_
        refine z_ri dX10_stranger_51 rfl ?_
        exact qm0 (if_pos hA) hX Fr.rf
      · refine z_aload_n 17 dX10_stranger_16 rfl rfl ?_
        refine z_iload 19 dX10_stranger_17 rfl rfl ?_
        refine z_cVI1 22 (tX10_isPlayer (by assumption) (by assumption)) kX10_isPlayer dX10_stranger_19 rfl lX10_162 (by first | assumption | rfl) (Nat.le_of_ble_eq_true rfl) ?_
        rintro _ _ ⟨e1, e2⟩
        replace e1 := e1.symm
        replace e2 := e2.symm
        subst e1
        subst e2
        refine z_ifb_eq 50 25 dX10_stranger_22 (by decide) rfl (fun h22 => ?_) (fun h22 => ?_)
        · refine z_iconst 51 (v := (-1)) dX10_stranger_50 rfl rfl ?_
          refine z_ri dX10_stranger_51 rfl ?_
          exact qm0 (if_pos hA) hX Fr.rf
        · refine z_iload_n 26 dX10_stranger_25 rfl rfl ?_
          refine z_iload_n 27 dX10_stranger_26 rfl rfl ?_
          refine z_icmp_eq 50 30 dX10_stranger_27 (by decide) rfl (fun h27 => ?_) (fun h27 => ?_)
          · refine z_iconst 51 (v := (-1)) dX10_stranger_50 rfl rfl ?_
            refine z_ri dX10_stranger_51 rfl ?_
            exact qm0 (if_pos hA) hX Fr.rf
          · refine z_iload 32 dX10_stranger_30 rfl rfl ?_
            refine z_iload_n 33 dX10_stranger_32 rfl rfl ?_
            refine z_icmp_eq 50 36 dX10_stranger_33 (by decide) rfl (fun h33 => ?_) (fun h33 => ?_)
            · refine z_iconst 51 (v := (-1)) dX10_stranger_50 rfl rfl ?_
              refine z_ri dX10_stranger_51 rfl ?_
              exact qm0 (if_pos hA) hX Fr.rf
            · refine z_iload 38 dX10_stranger_36 rfl rfl ?_
              refine z_iload_n 39 dX10_stranger_38 rfl rfl ?_
              refine z_icmp_eq 50 42 dX10_stranger_39 (by decide) rfl (fun h39 => ?_) (fun h39 => ?_)
              · refine z_iconst 51 (v := (-1)) dX10_stranger_50 rfl rfl ?_
                refine z_ri dX10_stranger_51 rfl ?_
                exact qm0 (if_pos hA) hX Fr.rf
              · refine z_aload_n 43 dX10_stranger_42 rfl rfl ?_
                refine z_iload_n 44 dX10_stranger_43 rfl rfl ?_
                refine z_cVI1 47 (tX10_isWord (by assumption) (by assumption)) kX10_isWord dX10_stranger_44 rfl lX10_151 (by first | assumption | rfl) (Nat.le_of_ble_eq_true rfl) ?_
                rintro _ _ ⟨e1, e2⟩
                replace e1 := e1.symm
                replace e2 := e2.symm
                subst e1
                subst e2
                refine z_ifb_ne 52 50 dX10_stranger_47 (by decide) rfl (fun h47 => ?_) (fun h47 => ?_)
                · exact absurd ⟨h5, h13, h22, h47, h27, fun z => h33 z.symm, fun z => h39 z.symm⟩ hA
                · refine z_iconst 51 (v := (-1)) dX10_stranger_50 rfl rfl ?_
                  refine z_ri dX10_stranger_51 rfl ?_
                  exact qm0 (if_pos hA) hX Fr.rf
  have e0 : spStranger S p q w o = _ := if_neg hA
  have hA := Classical.not_not.mp hA
  have hA' := hA
  obtain ⟨a1, a2, a3, a4, a5, a6, a7⟩ := hA
  obtain ⟨p, hp, rfl⟩ := inN_of a1
  obtain ⟨q, hq, rfl⟩ := inN_of a2
  obtain ⟨o, ho, rfl⟩ := inN_of a3
  obtain ⟨w, hw, rfl⟩ := inN_of a4
  obtain ⟨b1, b2, b3, b4, b5, b6, b7⟩ := hA'
  rw [zx_nI (by omega), zx_nI (by omega), zx_nI (by omega), zx_nI (by omega)] at e0
  have hpt : PtsOK (dS S p w).length (dG S p w) := dS_pts hW hp hw
  have h6 := hpt.2.1
  have loop : ∀ i, i ≤ 10 → ∀ τ, spStranger S (nI p) (nI q) (nI w) (nI o) = stR S p q w o (10 - i) i → Fr mS σ τ → RM S τ → At E mX10_stranger (d + 7) (qM σ (spStranger S (nI p) (nI q) (nI w) (nI o))) 55 [some (zr E 102), some (.int (nI p)), some (.int (nI q)), some (.int (nI w)), some (.int (nI o)), some (.int (nI i))] [] τ := by
    refine z_up (fun i hi ih τ e0 hF hR => ?_)
    by_cases hie : i = 10
    · subst hie
      refine z_iload 57 dX10_stranger_55 rfl rfl ?_
      refine z_bipush 59 (v := nI 9) dX10_stranger_57 rfl rfl ?_
      refine z_icmp_gt 108 62 dX10_stranger_59 (by decide) rfl (fun h59 => ?_) (fun h59 => ?_)
      · (try rw [nI_ltI (by omega) (by omega)] at h59)
        refine z_bipush 110 (v := (-9)) dX10_stranger_108 rfl rfl ?_
        refine z_ri dX10_stranger_110 rfl ?_
        exact qm0 e0 hR (hF.mono (by unfold mS; intros; omega))
      · (try rw [nI_ltI (by omega) (by omega)] at h59)
        omega
    · have hbd := sg_bd hW (q := q) hp hw i
      have hfv : fv S o < sBw S 0 := (plOK hW ho).2.2.2.2
      have hgl : stG S p q w o i < sBw S 0 := hG_lt hfv
      refine z_iload 57 dX10_stranger_55 rfl rfl ?_
      refine z_bipush 59 (v := nI 9) dX10_stranger_57 rfl rfl ?_
      refine z_icmp_gt 108 62 dX10_stranger_59 (by decide) rfl (fun h59 => ?_) (fun h59 => ?_)
      · (try rw [nI_ltI (by omega) (by omega)] at h59)
        omega
      · (try rw [nI_ltI (by omega) (by omega)] at h59)
        refine z_aload_n 63 dX10_stranger_62 rfl rfl ?_
        refine z_iload_n 64 dX10_stranger_63 rfl rfl ?_
        refine z_iload_n 65 dX10_stranger_64 rfl rfl ?_
        refine z_iload_n 66 dX10_stranger_65 rfl rfl ?_
        refine z_iload 68 dX10_stranger_66 rfl rfl ?_
        refine z_cVV4 71 (tX10_setSign hW hR hp hq hw (show i < 10 by omega)) kX10_setSign dX10_stranger_68 rfl lX10_325 (by first | assumption | rfl) (Nat.le_of_ble_eq_true rfl) ?_
        rintro τ1 ⟨hF1, hX1, hD1, hG1⟩
        refine z_aload_n 72 dX10_stranger_71 rfl rfl ?_
        refine z_cVV0 75 (tX10_seeDrawing (n := sg S p q w i) (g := dG S p w) hD1 (by omega) (fun j hj => hG1 j (by omega))) kX10_seeDrawing dX10_stranger_72 rfl lX10_187 (by first | assumption | rfl) (Nat.le_of_ble_eq_true rfl) ?_
        rintro τ2 ⟨hF2, hD2⟩
        have hX2 : RM S τ2 := hX1.scr hW (hF2.mono (by unfold mS; intros; omega))
        refine z_aload_n 76 dX10_stranger_75 rfl rfl ?_
        refine z_iload 78 dX10_stranger_76 rfl rfl ?_
        refine z_bipush 80 (v := (-9)) dX10_stranger_78 rfl rfl ?_
        refine z_cVV2 83 (tX10_sharesS (o := none) hW hX2 ho hD2 (hpt.sub (by omega) (by omega)) mByV.none) kX10_setShares dX10_stranger_80 rfl lX10_193 (by first | assumption | rfl) (Nat.le_of_ble_eq_true rfl) ?_
        rintro τ3 ⟨hF3, hX3, hS3⟩
        have hF4 : Fr mS σ τ3 := ((hF.tr hF1 (R := mS) (fun _ _ h => h) (by unfold mS; intros; omega)).tr hF2 (R := mS) (fun _ _ h => h) (by unfold mS; intros; omega)).tr hF3 (fun _ _ h => h) (by unfold mS; intros; omega)
        refine z_aload_n 84 dX10_stranger_83 rfl rfl ?_
        refine z_cVI0 87 (tX10_greatest hb8 hfv hX3.w0 hS3) kX10_greatest dX10_stranger_84 rfl lX10_200 (by first | assumption | rfl) (Nat.le_of_ble_eq_true rfl) ?_
        rintro _ _ ⟨e1, e2⟩
        replace e1 := e1.symm
        replace e2 := e2.symm
        subst e1
        subst e2
        rw [show hG (gSS S o (sg S p q w i) (dG S p w) none) (sBw S 0) (fv S o) = stG S p q w o i from rfl]
        refine z_iload_n 88 dX10_stranger_87 rfl rfl ?_
        refine z_icmp_eq 102 91 dX10_stranger_88 (by decide) rfl (fun h88 => ?_) (fun h88 => ?_)
        · (try rw [nI_eq (by omega) (by omega)] at h88)
          rw [stR_y (by omega) h88] at e0
          refine zs_iinc_5_6_1 105 rfl dX10_stranger_102 rfl rfl ?_
          rw [nI_add]
          refine z_goto 55 dX10_stranger_105 rfl ?_
          exact ih (i + 1) (by omega) (by omega) τ3 e0 hF4 hX3
        · (try rw [nI_eq (by omega) (by omega)] at h88)
          rw [stR_n (by omega) h88] at e0
          refine z_aload_n 92 dX10_stranger_91 rfl rfl ?_
          refine z_aload_n 93 dX10_stranger_92 rfl rfl ?_
          refine z_cVI0 96 (tX10_greatest hb8 hfv hX3.w0 hS3) kX10_greatest dX10_stranger_93 rfl lX10_200 (by first | assumption | rfl) (Nat.le_of_ble_eq_true rfl) ?_
          rintro _ _ ⟨e1, e2⟩
          replace e1 := e1.symm
          replace e2 := e2.symm
          subst e1
          subst e2
          refine z_iload 98 dX10_stranger_96 rfl rfl ?_
          refine z_cVI2 101 (tX10_ask) kX10_ask dX10_stranger_98 rfl lX10_117 (by first | assumption | rfl) (Nat.le_of_ble_eq_true rfl) ?_
          rintro _ _ ⟨e1, e2⟩
          replace e1 := e1.symm
          replace e2 := e2.symm
          subst e1
          subst e2
          refine z_ri dX10_stranger_101 rfl ?_
          exact qma hW e0 hX3 (hF4.mono (by unfold mS; intros; omega))
  refine Ret.of [some (zr E 102), some (.int (nI p)), some (.int (nI q)), some (.int (nI w)), some (.int (nI o)), none] (by decide +kernel) (Nat.le_of_ble_eq_true rfl) rfl ?_
  refine z_aload_n 1 dX10_stranger_0 rfl rfl ?_
  refine z_iload_n 2 dX10_stranger_1 rfl rfl ?_
  refine z_cVI1 5 (tX10_isPlayer (by assumption) (by assumption)) kX10_isPlayer dX10_stranger_2 rfl lX10_162 (by first | assumption | rfl) (Nat.le_of_ble_eq_true rfl) ?_
  rintro _ _ ⟨e1, e2⟩
  replace e1 := e1.symm
  replace e2 := e2.symm
  subst e1
  subst e2
  refine z_ifb_eq 50 8 dX10_stranger_5 (by decide) rfl (fun h5 => ?_) (fun h5 => ?_)
  · exact absurd b1 h5
  · refine z_aload_n 9 dX10_stranger_8 rfl rfl ?_
    refine z_iload_n 10 dX10_stranger_9 rfl rfl ?_
    refine z_cVI1 13 (tX10_isPlayer (by assumption) (by assumption)) kX10_isPlayer dX10_stranger_10 rfl lX10_162 (by first | assumption | rfl) (Nat.le_of_ble_eq_true rfl) ?_
    rintro _ _ ⟨e1, e2⟩
    replace e1 := e1.symm
    replace e2 := e2.symm
    subst e1
    subst e2
    refine z_ifb_eq 50 16 dX10_stranger_13 (by decide) rfl (fun h13 => ?_) (fun h13 => ?_)
    · exact absurd b2 h13
    · refine z_aload_n 17 dX10_stranger_16 rfl rfl ?_
      refine z_iload 19 dX10_stranger_17 rfl rfl ?_
      refine z_cVI1 22 (tX10_isPlayer (by assumption) (by assumption)) kX10_isPlayer dX10_stranger_19 rfl lX10_162 (by first | assumption | rfl) (Nat.le_of_ble_eq_true rfl) ?_
      rintro _ _ ⟨e1, e2⟩
      replace e1 := e1.symm
      replace e2 := e2.symm
      subst e1
      subst e2
      refine z_ifb_eq 50 25 dX10_stranger_22 (by decide) rfl (fun h22 => ?_) (fun h22 => ?_)
      · exact absurd b3 h22
      · refine z_iload_n 26 dX10_stranger_25 rfl rfl ?_
        refine z_iload_n 27 dX10_stranger_26 rfl rfl ?_
        refine z_icmp_eq 50 30 dX10_stranger_27 (by decide) rfl (fun h27 => ?_) (fun h27 => ?_)
        · exact absurd h27 b5
        · refine z_iload 32 dX10_stranger_30 rfl rfl ?_
          refine z_iload_n 33 dX10_stranger_32 rfl rfl ?_
          refine z_icmp_eq 50 36 dX10_stranger_33 (by decide) rfl (fun h33 => ?_) (fun h33 => ?_)
          · exact absurd h33.symm b6
          · refine z_iload 38 dX10_stranger_36 rfl rfl ?_
            refine z_iload_n 39 dX10_stranger_38 rfl rfl ?_
            refine z_icmp_eq 50 42 dX10_stranger_39 (by decide) rfl (fun h39 => ?_) (fun h39 => ?_)
            · exact absurd h39.symm b7
            · refine z_aload_n 43 dX10_stranger_42 rfl rfl ?_
              refine z_iload_n 44 dX10_stranger_43 rfl rfl ?_
              refine z_cVI1 47 (tX10_isWord (by assumption) (by assumption)) kX10_isWord dX10_stranger_44 rfl lX10_151 (by first | assumption | rfl) (Nat.le_of_ble_eq_true rfl) ?_
              rintro _ _ ⟨e1, e2⟩
              replace e1 := e1.symm
              replace e2 := e2.symm
              subst e1
              subst e2
              refine z_ifb_ne 52 50 dX10_stranger_47 (by decide) rfl (fun h47 => ?_) (fun h47 => ?_)
              · refine z_iconst 53 (v := nI 0) dX10_stranger_52 rfl rfl ?_
                refine zs_istore_5_6 55 rfl dX10_stranger_53 rfl rfl ?_
                exact loop 0 (Nat.zero_le _) σ e0 Fr.rf hX
              · exact absurd b4 h47
