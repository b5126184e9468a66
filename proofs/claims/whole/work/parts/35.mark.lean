/-! mark; handy forms of what draws and guesses -/
theorem tX2_drawS {E : zE} {d : Nat} {σ : zM} {S : sS} {p w : Nat} (hW : WF S) (hX : RX S σ) (hp : p < sPc S) (hw : w < sBw S 0) : Ret E mX2_drawBy (d + 2) [zr E 8, zr E (48 + 2 * p), .int (nI w)] σ (qV fun τ => Fr (fun x y => x = 8 ∨ x = 9) σ τ ∧ RX S τ ∧ DrG τ 8 (dS S p w).length (fun i => (dS S p w).getD i 0)) := by
  have h8 := hW.2.1.1
  have hb8 := bw_le hW (show 0 < 2 by omega)
  have hc := kd_p (show p < 8 by omega)
  obtain ⟨o1, o2, o3, o4, o5⟩ := plOK hW hp
  refine (tX2_drawBy (a := 8) (b := 44 + 2 * (sPl S p).2.1) (bw := sBw S 0) (w := w) (u := sUs S (sPl S p).2.1) rfl rfl hc (kd_b o2) (kd_b1 o2) (hX.py hp) o1 o3 o4 (hX.bxp hW hp) (by rw [uz_eq hw]; exact usLe hW hp hw) (by omega)).imp (fun v τ h => ?_)
  obtain ⟨h1, hF1, hD1⟩ := h
  rw [uz_eq hw] at hD1
  exact ⟨h1, hF1.mono (by intros; omega), hX.scr hW (hF1.mono (by unfold xS; intros; omega)), hD1⟩
theorem tX6_reckonS {E : zE} {d : Nat} {σ : zM} {S : sS} {p n : Nat} {g : Nat → Nat} {v : Value} {o : Option Nat} (hW : WF S) (hX : RX S σ) (hp : p < sPc S) (hD : DrG σ 8 n g) (hpt : PtsOK n g) (hV : ByV E σ v (sBw S 0) (DB S o)) : Ret E mX6_reckon (d + 2) [zr E 10, zr E (48 + 2 * p), zr E 8, v] σ (qV fun τ => Fr (fun x y => x = 10 ∨ x = 11 ∨ x = 12) σ τ ∧ RX S τ ∧ Shr τ (sBw S 0) (fv S p) (gSS S p n g o)) := by
  have h8 := hW.2.1.1
  have hc := kd_p (show p < 8 by omega)
  obtain ⟨v1, v2, v3, v4, v5⟩ := plOK hW hp
  refine (tX6_reckon (a := 8) (b := 44 + 2 * (sPl S p).2.1) (bw := sBw S 0) (n := n) (u := sUs S (sPl S p).2.1) (g := g) rfl rfl hc (kd_b v2) (kd_b1 v2) (hX.py hp) v1 v5 (hX.bxp hW hp) (fun w hw => usLe hW hp hw) hD hpt hV).imp (fun v τ h => ?_)
  obtain ⟨h1, hF1, hS1⟩ := h
  exact ⟨h1, hF1, hX.scr hW (hF1.mono (by unfold xS; intros; omega)), hS1⟩
theorem tX10_seeS {E : zE} {d : Nat} {σ : zM} {S : sS} {p w : Nat} (hW : WF S) (hX : RM S σ) (hp : p < sPc S) (hw : w < sBw S 0) : Ret E mX10_see (d + 3) [zr E 102, .int (nI p), .int (nI w)] σ (qV fun τ => Fr (fun a j => a = 102 ∧ (j = 16 ∨ j = 18) ∨ a = 112 ∨ a = 113) σ τ ∧ RM S τ ∧ mDrG τ (dS S p w).length (fun i => (dS S p w).getD i 0)) := by
  have h8 := hW.2.1.1
  refine (tX10_see (show p < 9 by omega) (hX.py hp) (plOK hW hp) (hX.bxp hW hp) hw (usLe hW hp hw)).imp (fun v τ h => ?_)
  obtain ⟨h1, hF1, hD1, hE1⟩ := h
  exact ⟨h1, hF1, hX.scr hW (hF1.mono (by unfold mS; intros; omega)), hE1⟩
theorem tX10_sharesS {E : zE} {d : Nat} {σ : zM} {S : sS} {p n : Nat} {g : Nat → Nat} {v : Int32} {o : Option Nat} (hW : WF S) (hX : RM S σ) (hp : p < sPc S) (hD : mDrG σ n g) (hpt : PtsOK n g) (hV : mByV σ v (sBw S 0) (DB S o)) : Ret E mX10_setShares (d + 5) [zr E 102, .int (nI p), .int v] σ (qV fun τ => Fr (fun a j => a = 102 ∧ j = 16 ∨ a = 112 ∨ a = 114 ∨ a = 115) σ τ ∧ RM S τ ∧ mShr τ (sBw S 0) (fv S p) (gSS S p n g o)) := by
  have h8 := hW.2.1.1
  refine (tX10_setShares (bw := sBw S 0) (n := n) (g := g) (u := sUs S (sPl S p).2.1) (show p < 9 by omega) (hX.py hp) (plOK hW hp) hX.w0 (hX.bxp hW hp) (fun w hw => usLe hW hp hw) hD hpt hV).imp (fun v τ h => ?_)
  obtain ⟨h1, hF1, hS1⟩ := h
  exact ⟨h1, hF1, hX.scr hW (hF1.mono (by unfold mS; intros; omega)), hS1⟩
def shN (S : sS) (p n : Nat) (g : Nat → Nat) (o : Option Nat) (w : Nat) : Nat := hSh (gSS S p n g o) (sBw S 0) (fv S p) w
theorem shN_le {S : sS} (hW : WF S) {p : Nat} (hp : p < sPc S) (n : Nat) (g : Nat → Nat) (o : Option Nat) {w : Nat} (hw : w < sBw S 0) : shN S p n g o w ≤ 24 := by
  have h1 := hSh_sum (s := gSS S p n g o) (n := sBw S 0) (fav := fv S p) (plOK hW hp).2.2.2.2
  have h2 := fsum_one (f := hSh (gSS S p n g o) (sBw S 0) (fv S p)) (sBw S 0) w hw
  unfold shN
  omega
/-- the shares of w, of one's guess at what t draws of w, knowing who or not -/
def shD (S : sS) (p t w : Nat) (o : Option Nat) (v : Nat) : Nat := shN S p (dS S t w).length (fun i => (dS S t w).getD i 0) o v
def rd0 (S : sS) (p t : Nat) : Nat := if shD S p t 0 none 0 < shD S p t 0 (some t) 0 then 1 else 0
def b1n : Nat := (bl 1 10).length
def b1g : Nat → Nat := fun i => (bl 1 10).getD i 0
theorem b1_pts : PtsOK b1n b1g := bl_pts ⟨0, by decide, by decide⟩ (by decide)
def mkV (S : sS) (p k : Nat) : Nat := match k with
  | 1 => (dS S p 0).length
  | 2 => shN S p b1n b1g none (fv S p)
  | 3 => (sPl S p).2.2.1
  | 4 => hG (gSS S p b1n b1g none) (sBw S 0) (fv S p)
  | _ => fsum (rd0 S p) (sPc S)
def spMark (S : sS) (p k : Int32) : Int32 × sS := if ¬ (inN p (sPc S) ∧ nI 1 ≤ k ∧ k ≤ nI 5) then (-1, S) else if ¬ ((sPl S (zx p)).1 = zx k ∨ (sPl S (zx p)).1 = 4 ∧ zx k = 1) then sFd S 3 else (nI (mkV S (zx p) (zx k)), S)
theorem gt6 {k : Int32} (h1 : ¬ k ≤ 0) (h2 : k < nI 6) : nI 1 ≤ k ∧ k ≤ nI 5 := by
  obtain ⟨j, hj, rfl⟩ := nI_of (x := k) (fun z => h1 (Int32.le_of_lt z))
  rw [nI_le0 hj] at h1
  rw [nI_ltI hj (by decide)] at h2
  exact ⟨nI_le (by omega) (by omega), nI_le (by omega) (by omega)⟩
set_option maxRecDepth 20000 in
theorem tX9_guessFirstPart {E : zE} {d : Nat} {σ : zM} {S : sS} {p : Nat} (hW : WF S) (hX : RX S σ) (hp : p < sPc S) : Ret E mX9_guessFirstPart (d + 3) [zr E 0, zr E (48 + 2 * p)] σ (qV fun τ => Fr (fun x y => 8 ≤ x ∧ x ≤ 12) σ τ ∧ RX S τ ∧ Shr τ (sBw S 0) (fv S p) (gSS S p b1n b1g none)) := by
  have h8 := hW.2.1.1
  have hc := kd_p (show p < 8 by omega)
  refine Ret.of [some (zr E 0), some (zr E (48 + 2 * p))] (by decide +kernel) (Nat.le_of_ble_eq_true rfl) rfl ?_
  refine z_aload_n 1 dX9_guessFirstPart_0 rfl rfl ?_
  refine gX9_46 4 rfl dX9_guessFirstPart_1 rfl ?_
  refine z_iconst 5 (v := nI 1) dX9_guessFirstPart_4 rfl rfl ?_
  refine z_cVV1 8 (tX2_takeSet (a := 8) rfl rfl (by decide) (by decide)) kX2_takeSet dX9_guessFirstPart_5 rfl lX9_417 (by first | assumption | rfl) (Nat.le_of_ble_eq_true rfl) ?_
  rintro τ1 ⟨hF1, hD1⟩
  have hX1 : RX S τ1 := hX.scr hW (hF1.mono (by unfold xS; intros; omega))
  refine z_aload_n 9 dX9_guessFirstPart_8 rfl rfl ?_
  refine gX9_53 12 rfl dX9_guessFirstPart_9 rfl ?_
  refine z_aload_n 13 dX9_guessFirstPart_12 rfl rfl ?_
  refine z_aload_n 14 dX9_guessFirstPart_13 rfl rfl ?_
  refine gX9_46 17 rfl dX9_guessFirstPart_14 rfl ?_
  refine z_null 18 dX9_guessFirstPart_17 rfl ?_
  refine z_cVV3 21 (tX6_reckonS (o := none) hW hX1 hp hD1 b1_pts ByV.none) kX6_reckon dX9_guessFirstPart_18 rfl lX9_225 (by first | assumption | rfl) (Nat.le_of_ble_eq_true rfl) ?_
  rintro τ2 ⟨hF2, hX2, hS2⟩
  refine z_rv dX9_guessFirstPart_21 rfl ?_
  exact ⟨hF1.tr hF2 (by intros; omega) (by intros; omega), hX2, hS2⟩
set_option maxRecDepth 20000 in
theorem tX9_handsRead {E : zE} {d : Nat} {σ : zM} {S : sS} {p : Nat} (hW : WF S) (hX : RX S σ) (hp : p < sPc S) : Ret E mX9_handsRead (d + 3) [zr E 0, zr E (48 + 2 * p)] σ (qI fun x τ => x = nI (fsum (rd0 S p) (sPc S)) ∧ Fr (fun x y => 8 ≤ x ∧ x ≤ 12) σ τ ∧ RX S τ) := by
  have h8 := hW.2.1.1
  have hb8 := bw_le hW (show 0 < 2 by omega)
  have hc := kd_p (show p < 8 by omega)
  have hw0 : 0 < sBw S 0 := Nat.lt_of_le_of_lt (Nat.zero_le _) (plOK hW hp).2.2.2.2
  refine Ret.of [some (zr E 0), some (zr E (48 + 2 * p)), none, none, none] (by decide +kernel) (Nat.le_of_ble_eq_true rfl) rfl ?_
  have loop : ∀ i, i ≤ sPc S → ∀ τ, Fr (fun x y => 8 ≤ x ∧ x ≤ 12) σ τ → RX S τ → At E mX9_handsRead (d + 3) (qI fun x τ => x = nI (fsum (rd0 S p) (sPc S)) ∧ Fr (fun x y => 8 ≤ x ∧ x ≤ 12) σ τ ∧ RX S τ) 4 [some (zr E 0), some (zr E (48 + 2 * p)), some (.int (nI (fsum (rd0 S p) i))), some (.int (nI i)), none] [] τ := by
    refine z_up (fun i hi ih τ hF hR => ?_)
    have hpt : gi τ 0 11 = nI (sPc S) := hR.2.2.2.1.1
    by_cases hie : i = sPc S
    · subst hie
      refine z_iload_n 5 dX9_handsRead_4 rfl rfl ?_
      refine z_aload_n 6 dX9_handsRead_5 rfl rfl ?_
      refine gX9_150 9 rfl dX9_handsRead_6 rfl ?_
      rw [hpt]
      refine z_icmp_ge 89 12 dX9_handsRead_9 (by decide) rfl (fun h9 => ?_) (fun h9 => ?_)
      · (try rw [nI_leI (by omega) (by omega)] at h9)
        refine z_iload_n 90 dX9_handsRead_89 rfl rfl ?_
        refine z_ri dX9_handsRead_90 rfl ?_
        exact ⟨rfl, hF, hR⟩
      · (try rw [nI_leI (by omega) (by omega)] at h9)
        omega
    · have hil : i < sPc S := by omega
      have hci := kd_p (show i < 8 by omega)
      have hP := dS_pts hW hil hw0
      have l1 : shD S p i 0 none 0 ≤ 24 := shN_le hW hp (dS S i 0).length (fun k => (dS S i 0).getD k 0) none hw0
      have l2 : shD S p i 0 (some i) 0 ≤ 24 := shN_le hW hp (dS S i 0).length (fun k => (dS S i 0).getD k 0) (some i) hw0
      refine z_iload_n 5 dX9_handsRead_4 rfl rfl ?_
      refine z_aload_n 6 dX9_handsRead_5 rfl rfl ?_
      refine gX9_150 9 rfl dX9_handsRead_6 rfl ?_
      rw [hpt]
      refine z_icmp_ge 89 12 dX9_handsRead_9 (by decide) rfl (fun h9 => ?_) (fun h9 => ?_)
      · (try rw [nI_leI (by omega) (by omega)] at h9)
        omega
      · (try rw [nI_leI (by omega) (by omega)] at h9)
        refine z_aload_n 13 dX9_handsRead_12 rfl rfl ?_
        refine gX9_46 16 rfl dX9_handsRead_13 rfl ?_
        refine z_aload_n 17 dX9_handsRead_16 rfl rfl ?_
        refine gX9_26 20 rfl dX9_handsRead_17 rfl ?_
        refine z_iload_n 21 dX9_handsRead_20 rfl rfl ?_
        refine z_aald4 22 dX9_handsRead_21 rfl (by omega) ?_
        refine z_iconst 23 (v := nI 0) dX9_handsRead_22 rfl rfl ?_
        refine z_cVV2 26 (tX2_drawS hW hR hil hw0) kX2_drawBy dX9_handsRead_23 rfl lX9_185 (by first | assumption | rfl) (Nat.le_of_ble_eq_true rfl) ?_
        rintro τ1 ⟨hF1, hX1, hD1⟩
        refine z_aload_n 27 dX9_handsRead_26 rfl rfl ?_
        refine gX9_53 30 rfl dX9_handsRead_27 rfl ?_
        refine z_aload_n 31 dX9_handsRead_30 rfl rfl ?_
        refine z_aload_n 32 dX9_handsRead_31 rfl rfl ?_
        refine gX9_46 35 rfl dX9_handsRead_32 rfl ?_
        refine z_aload_n 36 dX9_handsRead_35 rfl rfl ?_
        refine gX9_26 39 rfl dX9_handsRead_36 rfl ?_
        refine z_iload_n 40 dX9_handsRead_39 rfl rfl ?_
        refine z_aald4 41 dX9_handsRead_40 rfl (by omega) ?_
        refine z_cVV3 44 (tX6_reckonS (o := some i) hW hX1 hp hD1 hP (hX1.by hW hil)) kX6_reckon dX9_handsRead_41 rfl lX9_225 (by first | assumption | rfl) (Nat.le_of_ble_eq_true rfl) ?_
        rintro τ2 ⟨hF2, hX2, hS2⟩
        refine z_aload_n 45 dX9_handsRead_44 rfl rfl ?_
        refine gX9_53 48 rfl dX9_handsRead_45 rfl ?_
        refine z_iconst 49 (v := nI 0) dX9_handsRead_48 rfl rfl ?_
        refine z_cVI1 52 (tX6_get hb8 hS2.1 hw0) kX6_get dX9_handsRead_49 rfl lX9_197 (by first | assumption | rfl) (Nat.le_of_ble_eq_true rfl) ?_
        rintro _ _ ⟨e1, e2⟩
        replace e1 := e1.symm
        replace e2 := e2.symm
        subst e1
        subst e2
        rw [hS2.2.2 0 hw0]
        refine zs_istore_4_5 54 rfl dX9_handsRead_52 rfl rfl ?_
        refine z_aload_n 55 dX9_handsRead_54 rfl rfl ?_
        refine gX9_53 58 rfl dX9_handsRead_55 rfl ?_
        refine z_aload_n 59 dX9_handsRead_58 rfl rfl ?_
        refine z_aload_n 60 dX9_handsRead_59 rfl rfl ?_
        refine gX9_46 63 rfl dX9_handsRead_60 rfl ?_
        refine z_null 64 dX9_handsRead_63 rfl ?_
        refine z_cVV3 67 (tX6_reckonS (o := none) hW hX2 hp (hD1.fr hF2 (by intros; omega) (by intros; omega)) hP ByV.none) kX6_reckon dX9_handsRead_64 rfl lX9_225 (by first | assumption | rfl) (Nat.le_of_ble_eq_true rfl) ?_
        rintro τ3 ⟨hF3, hX3, hS3⟩
        have hF4 : Fr (fun x y => 8 ≤ x ∧ x ≤ 12) σ τ3 := ((hF.tr hF1 (R := fun x y => 8 ≤ x ∧ x ≤ 12) (fun _ _ h => h) (by intros; omega)).tr hF2 (R := fun x y => 8 ≤ x ∧ x ≤ 12) (fun _ _ h => h) (by intros; omega)).tr hF3 (fun _ _ h => h) (by intros; omega)
        refine z_iload 69 dX9_handsRead_67 rfl rfl ?_
        refine z_aload_n 70 dX9_handsRead_69 rfl rfl ?_
        refine gX9_53 73 rfl dX9_handsRead_70 rfl ?_
        refine z_iconst 74 (v := nI 0) dX9_handsRead_73 rfl rfl ?_
        refine z_cVI1 77 (tX6_get hb8 hS3.1 hw0) kX6_get dX9_handsRead_74 rfl lX9_197 (by first | assumption | rfl) (Nat.le_of_ble_eq_true rfl) ?_
        rintro _ _ ⟨e1, e2⟩
        replace e1 := e1.symm
        replace e2 := e2.symm
        subst e1
        subst e2
        rw [hS3.2.2 0 hw0, show hSh (gSS S p (dS S i 0).length (fun k => (dS S i 0).getD k 0) (some i)) (sBw S 0) (fv S p) 0 = shD S p i 0 (some i) 0 from rfl, show hSh (gSS S p (dS S i 0).length (fun k => (dS S i 0).getD k 0) none) (sBw S 0) (fv S p) 0 = shD S p i 0 none 0 from rfl]
        refine z_icmp_le 83 80 dX9_handsRead_77 (by decide) rfl (fun h77 => ?_) (fun h77 => ?_)
        · rw [nI_leI (Nat.lt_of_le_of_lt l2 (by decide)) (Nat.lt_of_le_of_lt l1 (by decide))] at h77
          have er : rd0 S p i = 0 := if_neg (by omega)
          try rw [nI_add]
          refine zs_iinc_3_5_1 86 rfl dX9_handsRead_83 rfl rfl ?_
          rw [nI_add]
          refine z_goto 4 dX9_handsRead_86 rfl ?_
          have hih := ih (i + 1) (by omega) (by omega) τ3 hF4 hX3
          rw [fsum, er] at hih
          exact zf_4_5 hih
        · rw [nI_leI (Nat.lt_of_le_of_lt l2 (by decide)) (Nat.lt_of_le_of_lt l1 (by decide))] at h77
          have er : rd0 S p i = 1 := if_pos (by omega)
          refine zs_iinc_2_5_1 83 rfl dX9_handsRead_80 rfl rfl ?_
          try rw [nI_add]
          refine zs_iinc_3_5_1 86 rfl dX9_handsRead_83 rfl rfl ?_
          rw [nI_add]
          refine z_goto 4 dX9_handsRead_86 rfl ?_
          have hih := ih (i + 1) (by omega) (by omega) τ3 hF4 hX3
          rw [fsum, er] at hih
          exact zf_4_5 hih
  refine z_iconst 1 (v := nI 0) dX9_handsRead_0 rfl rfl ?_
  refine zs_istore_n_2_5 2 rfl dX9_handsRead_1 rfl rfl ?_
  refine z_iconst 3 (v := nI 0) dX9_handsRead_2 rfl rfl ?_
  refine zs_istore_n_3_5 4 rfl dX9_handsRead_3 rfl rfl ?_
  exact loop 0 (Nat.zero_le _) σ Fr.rf hX
set_option maxRecDepth 20000 in
theorem tX9_mark {E : zE} {d : Nat} {σ : zM} {S : sS} {p k : Int32} (hW : WF S) (hX : RX S σ) : Ret E mX9_mark (d + 4) [zr E 0, .int p, .int k] σ (qX σ (spMark S p k)) := by
  have h8 := hW.2.1.1
  have hb8 := bw_le hW (show 0 < 2 by omega)
  by_cases hA : ¬ (inN p (sPc S) ∧ nI 1 ≤ k ∧ k ≤ nI 5)
  · refine Ret.of [some (zr E 0), some (.int p), some (.int k)] (by decide +kernel) (Nat.le_of_ble_eq_true rfl) rfl ?_
    refine z_aload_n 1 dX9_mark_0 rfl rfl ?_
    refine z_iload_n 2 dX9_mark_1 rfl rfl ?_
    refine z_cVI1 5 (tX9_isPl (by assumption) (by assumption)) kX9_isPlayer dX9_mark_2 rfl lX9_176 (by first | assumption | rfl) (Nat.le_of_ble_eq_true rfl) ?_
    rintro _ _ ⟨e1, e2⟩
    replace e1 := e1.symm
    replace e2 := e2.symm
    subst e1
    subst e2
    refine z_ifb_eq 18 8 dX9_mark_5 (by decide) rfl (fun h5 => ?_) (fun h5 => ?_)
    · refine z_iconst 19 (v := (-1)) dX9_mark_18 rfl rfl ?_
      refine z_ri dX9_mark_19 rfl ?_
      exact qx0 (if_pos hA) hX Fr.rf
    · refine z_iload_n 9 dX9_mark_8 rfl rfl ?_
      refine z_if_le 18 12 dX9_mark_9 (by decide) rfl (fun h9 => ?_) (fun h9 => ?_)
      · refine z_iconst 19 (v := (-1)) dX9_mark_18 rfl rfl ?_
        refine z_ri dX9_mark_19 rfl ?_
        exact qx0 (if_pos hA) hX Fr.rf
      · refine z_iload_n 13 dX9_mark_12 rfl rfl ?_
        refine z_bipush 15 (v := nI 6) dX9_mark_13 rfl rfl ?_
        refine z_icmp_lt 20 18 dX9_mark_15 (by decide) rfl (fun h15 => ?_) (fun h15 => ?_)
        · exact absurd ⟨h5, gt6 h9 h15⟩ hA
        · refine z_iconst 19 (v := (-1)) dX9_mark_18 rfl rfl ?_
          refine z_ri dX9_mark_19 rfl ?_
          exact qx0 (if_pos hA) hX Fr.rf
  have e0 : spMark S p k = _ := if_neg hA
  have hA : inN p (sPc S) ∧ nI 1 ≤ k ∧ k ≤ nI 5 := Classical.byContradiction hA
  have hA1 := hA.1
  obtain ⟨p, hp, rfl⟩ := inN_of hA.1
  obtain ⟨k, hk1, hk5, rfl⟩ := in15 (by decide) (by decide) hA.2
  rw [zx_nI (by omega), zx_nI (by omega)] at e0
  have hc := kd_p (show p < 8 by omega)
  obtain ⟨o1, o2, o3, o4, o5⟩ := plOK hW hp
  have hw0 : 0 < sBw S 0 := Nat.lt_of_le_of_lt (Nat.zero_le _) o5
  obtain ⟨a1, a2, a3, a4, a5⟩ := hX.py hp
  refine Ret.of [some (zr E 0), some (.int (nI p)), some (.int (nI k))] (by decide +kernel) (Nat.le_of_ble_eq_true rfl) rfl ?_
  by_cases hI : ¬ ((sPl S p).1 = k ∨ (sPl S p).1 = 4 ∧ k = 1)
  · rw [if_pos hI] at e0
    refine z_aload_n 1 dX9_mark_0 rfl rfl ?_
    refine z_iload_n 2 dX9_mark_1 rfl rfl ?_
    refine z_cVI1 5 (tX9_isPl (by assumption) (by assumption)) kX9_isPlayer dX9_mark_2 rfl lX9_176 (by first | assumption | rfl) (Nat.le_of_ble_eq_true rfl) ?_
    rintro _ _ ⟨e1, e2⟩
    replace e1 := e1.symm
    replace e2 := e2.symm
    subst e1
    subst e2
    refine z_ifb_eq 18 8 dX9_mark_5 (by decide) rfl (fun h5 => ?_) (fun h5 => ?_)
    · exact absurd hA1 h5
    · refine z_iload_n 9 dX9_mark_8 rfl rfl ?_
      refine z_if_le 18 12 dX9_mark_9 (by decide) rfl (fun h9 => ?_) (fun h9 => ?_)
      · (try rw [nI_le0 (by omega)] at h9)
        omega
      · (try rw [nI_le0 (by omega)] at h9)
        refine z_iload_n 13 dX9_mark_12 rfl rfl ?_
        refine z_bipush 15 (v := nI 6) dX9_mark_13 rfl rfl ?_
        refine z_icmp_lt 20 18 dX9_mark_15 (by decide) rfl (fun h15 => ?_) (fun h15 => ?_)
        · (try rw [nI_ltI (by omega) (by omega)] at h15)
          refine z_aload_n 21 dX9_mark_20 rfl rfl ?_
          refine gX9_26 24 rfl dX9_mark_21 rfl ?_
          refine z_iload_n 25 dX9_mark_24 rfl rfl ?_
          refine z_aald4 26 dX9_mark_25 rfl (by omega) ?_
          refine z_iload_n 27 dX9_mark_26 rfl rfl ?_
          refine z_cVI1 30 (tX4_is hc (hX.py hp) o1 (by omega)) kX4_is dX9_mark_27 rfl lX9_182 (by first | assumption | rfl) (Nat.le_of_ble_eq_true rfl) ?_
          rintro _ _ ⟨e1, e2⟩
          replace e1 := e1.symm
          replace e2 := e2.symm
          subst e1
          subst e2
          refine z_ifb_ne 42 33 dX9_mark_30 (by decide) rfl (fun h30 => ?_) (fun h30 => ?_)
          · exact absurd h30 hI
          · refine z_aload_n 34 dX9_mark_33 rfl rfl ?_
            refine gX9_39 37 rfl dX9_mark_34 rfl ?_
            refine z_iconst 38 (v := nI 3) dX9_mark_37 rfl rfl ?_
            refine z_cVI1 41 (tX0_found (by omega) (by omega)) kX0_found dX9_mark_38 rfl lX9_87 (by first | assumption | rfl) (Nat.le_of_ble_eq_true rfl) ?_
            rintro _ _ ⟨e1, e2⟩
            replace e1 := e1.symm
            replace e2 := e2.symm
            subst e1
            subst e2
            refine z_ri dX9_mark_41 rfl ?_
            exact qxf hW e0 (by decide) hX Fr.rf
        · (try rw [nI_ltI (by omega) (by omega)] at h15)
          omega
  rw [if_neg hI] at e0
  have hI : (sPl S p).1 = k ∨ (sPl S p).1 = 4 ∧ k = 1 := Classical.byContradiction hI
  have s42 : At E mX9_mark (d + 4) (qX σ (spMark S (nI p) (nI k))) 42 [some (zr E 0), some (.int (nI p)), some (.int (nI k))] [] σ := by
    refine z_iload_n 43 dX9_mark_42 rfl rfl ?_
    match k, hk1, hk5 with
    | 1, _, _ =>
      refine z_tab 72 dX9_mark_43 (by decide) (by decide) rfl (by decide) ?_
      refine z_aload_n 73 dX9_mark_72 rfl rfl ?_
      refine gX9_46 76 rfl dX9_mark_73 rfl ?_
      refine z_aload_n 77 dX9_mark_76 rfl rfl ?_
      refine gX9_26 80 rfl dX9_mark_77 rfl ?_
      refine z_iload_n 81 dX9_mark_80 rfl rfl ?_
      refine z_aald4 82 dX9_mark_81 rfl (by omega) ?_
      refine z_iconst 83 (v := nI 0) dX9_mark_82 rfl rfl ?_
      refine z_cVV2 86 (tX2_drawS hW hX hp hw0) kX2_drawBy dX9_mark_83 rfl lX9_185 (by first | assumption | rfl) (Nat.le_of_ble_eq_true rfl) ?_
      rintro τ1 ⟨hF1, hX1, hD1⟩
      refine z_aload_n 87 dX9_mark_86 rfl rfl ?_
      refine gX9_46 90 rfl dX9_mark_87 rfl ?_
      refine gX9_189 93 rfl dX9_mark_90 rfl (by first | assumption | rfl) ?_
      rw [hD1.1]
      refine z_ri dX9_mark_93 rfl ?_
      exact qx0 e0 hX1 (hF1.mono (by intros; omega))
    | 2, _, _ =>
      refine z_tab 94 dX9_mark_43 (by decide) (by decide) rfl (by decide) ?_
      refine z_aload_n 95 dX9_mark_94 rfl rfl ?_
      refine z_aload_n 96 dX9_mark_95 rfl rfl ?_
      refine gX9_26 99 rfl dX9_mark_96 rfl ?_
      refine z_iload_n 100 dX9_mark_99 rfl rfl ?_
      refine z_aald4 101 dX9_mark_100 rfl (by omega) ?_
      refine z_cVV1 104 (tX9_guessFirstPart hW hX hp) kX9_guessFirstPart dX9_mark_101 rfl lX9_190 (by first | assumption | rfl) (Nat.le_of_ble_eq_true rfl) ?_
      rintro τ1 ⟨hF1, hX1, hS1⟩
      refine z_aload_n 105 dX9_mark_104 rfl rfl ?_
      refine gX9_53 108 rfl dX9_mark_105 rfl ?_
      refine z_aload_n 109 dX9_mark_108 rfl rfl ?_
      refine gX9_26 112 rfl dX9_mark_109 rfl ?_
      refine z_iload_n 113 dX9_mark_112 rfl rfl ?_
      refine z_aald4 114 dX9_mark_113 rfl (by omega) ?_
      refine gX9_194 117 rfl dX9_mark_114 rfl (by first | assumption | rfl) ?_
      rw [(hX1.py hp).2.2.2.1]
      refine z_cVI1 120 (tX6_get hb8 hS1.1 o5) kX6_get dX9_mark_117 rfl lX9_197 (by first | assumption | rfl) (Nat.le_of_ble_eq_true rfl) ?_
      rintro _ _ ⟨e1, e2⟩
      replace e1 := e1.symm
      replace e2 := e2.symm
      subst e1
      subst e2
      rw [hS1.2.2 _ o5]
      refine z_ri dX9_mark_120 rfl ?_
      exact qx0 e0 hX1 (hF1.mono (by intros; omega))
    | 3, _, _ =>
      refine z_tab 121 dX9_mark_43 (by decide) (by decide) rfl (by decide) ?_
      refine z_aload_n 122 dX9_mark_121 rfl rfl ?_
      refine gX9_26 125 rfl dX9_mark_122 rfl ?_
      refine z_iload_n 126 dX9_mark_125 rfl rfl ?_
      refine z_aald4 127 dX9_mark_126 rfl (by omega) ?_
      refine gX9_198 130 rfl dX9_mark_127 rfl (by first | assumption | rfl) ?_
      rw [a3]
      refine z_ri dX9_mark_130 rfl ?_
      exact qx0 e0 hX Fr.rf
    | 4, _, _ =>
      refine z_tab 131 dX9_mark_43 (by decide) (by decide) rfl (by decide) ?_
      refine z_aload_n 132 dX9_mark_131 rfl rfl ?_
      refine z_aload_n 133 dX9_mark_132 rfl rfl ?_
      refine gX9_26 136 rfl dX9_mark_133 rfl ?_
      refine z_iload_n 137 dX9_mark_136 rfl rfl ?_
      refine z_aald4 138 dX9_mark_137 rfl (by omega) ?_
      refine z_cVV1 141 (tX9_guessFirstPart hW hX hp) kX9_guessFirstPart dX9_mark_138 rfl lX9_190 (by first | assumption | rfl) (Nat.le_of_ble_eq_true rfl) ?_
      rintro τ1 ⟨hF1, hX1, hS1⟩
      refine z_aload_n 142 dX9_mark_141 rfl rfl ?_
      refine gX9_53 145 rfl dX9_mark_142 rfl ?_
      refine gX9_201 148 rfl dX9_mark_145 rfl (by first | assumption | rfl) ?_
      rw [hS1.2.1]
      refine z_ri dX9_mark_148 rfl ?_
      exact qx0 e0 hX1 (hF1.mono (by intros; omega))
    | 5, _, _ =>
      refine z_tabD 149 dX9_mark_43 (by decide) (by decide) ?_
      refine z_aload_n 150 dX9_mark_149 rfl rfl ?_
      refine z_aload_n 151 dX9_mark_150 rfl rfl ?_
      refine gX9_26 154 rfl dX9_mark_151 rfl ?_
      refine z_iload_n 155 dX9_mark_154 rfl rfl ?_
      refine z_aald4 156 dX9_mark_155 rfl (by omega) ?_
      refine z_cVI1 159 (tX9_handsRead hW hX hp) kX9_handsRead dX9_mark_156 rfl lX9_204 (by first | assumption | rfl) (Nat.le_of_ble_eq_true rfl) ?_
      rintro _ τ1 ⟨e1, hF1, hX1⟩
      subst e1
      refine z_ri dX9_mark_159 rfl ?_
      exact qx0 e0 hX1 (hF1.mono (by intros; omega))
  refine z_aload_n 1 dX9_mark_0 rfl rfl ?_
  refine z_iload_n 2 dX9_mark_1 rfl rfl ?_
  refine z_cVI1 5 (tX9_isPl (by assumption) (by assumption)) kX9_isPlayer dX9_mark_2 rfl lX9_176 (by first | assumption | rfl) (Nat.le_of_ble_eq_true rfl) ?_
  rintro _ _ ⟨e1, e2⟩
  replace e1 := e1.symm
  replace e2 := e2.symm
  subst e1
  subst e2
  refine z_ifb_eq 18 8 dX9_mark_5 (by decide) rfl (fun h5 => ?_) (fun h5 => ?_)
  · exact absurd hA1 h5
  · refine z_iload_n 9 dX9_mark_8 rfl rfl ?_
    refine z_if_le 18 12 dX9_mark_9 (by decide) rfl (fun h9 => ?_) (fun h9 => ?_)
    · (try rw [nI_le0 (by omega)] at h9)
      omega
    · (try rw [nI_le0 (by omega)] at h9)
      refine z_iload_n 13 dX9_mark_12 rfl rfl ?_
      refine z_bipush 15 (v := nI 6) dX9_mark_13 rfl rfl ?_
      refine z_icmp_lt 20 18 dX9_mark_15 (by decide) rfl (fun h15 => ?_) (fun h15 => ?_)
      · (try rw [nI_ltI (by omega) (by omega)] at h15)
        refine z_aload_n 21 dX9_mark_20 rfl rfl ?_
        refine gX9_26 24 rfl dX9_mark_21 rfl ?_
        refine z_iload_n 25 dX9_mark_24 rfl rfl ?_
        refine z_aald4 26 dX9_mark_25 rfl (by omega) ?_
        refine z_iload_n 27 dX9_mark_26 rfl rfl ?_
        refine z_cVI1 30 (tX4_is hc (hX.py hp) o1 (by omega)) kX4_is dX9_mark_27 rfl lX9_182 (by first | assumption | rfl) (Nat.le_of_ble_eq_true rfl) ?_
        rintro _ _ ⟨e1, e2⟩
        replace e1 := e1.symm
        replace e2 := e2.symm
        subst e1
        subst e2
        refine z_ifb_ne 42 33 dX9_mark_30 (by decide) rfl (fun h30 => ?_) (fun h30 => ?_)
        · exact s42
        · exact absurd hI h30
      · (try rw [nI_ltI (by omega) (by omega)] at h15)
        omega
set_option maxRecDepth 20000 in
theorem tX10_mark {E : zE} {d : Nat} {σ : zM} {S : sS} {p k : Int32} (hW : WF S) (hX : RM S σ) : Ret E mX10_mark (d + 6) [zr E 102, .int p, .int k] σ (qM σ (spMark S p k)) := by
  have h8 := hW.2.1.1
  have hb8 := bw_le hW (show 0 < 2 by omega)
  by_cases hA : ¬ (inN p (sPc S) ∧ nI 1 ≤ k ∧ k ≤ nI 5)
  · refine Ret.of [some (zr E 102), some (.int p), some (.int k), none, none, none] (by decide +kernel) (Nat.le_of_ble_eq_true rfl) rfl ?_
    refine z_aload_n 1 dX10_mark_0 rfl rfl ?_
    refine z_iload_n 2 dX10_mark_1 rfl rfl ?_
    refine z_cVI1 5 (tX10_isPlayer (by assumption) (by assumption)) kX10_isPlayer dX10_mark_2 rfl lX10_162 (by first | assumption | rfl) (Nat.le_of_ble_eq_true rfl) ?_
    rintro _ _ ⟨e1, e2⟩
    replace e1 := e1.symm
    replace e2 := e2.symm
    subst e1
    subst e2
    refine z_ifb_eq 17 8 dX10_mark_5 (by decide) rfl (fun h5 => ?_) (fun h5 => ?_)
    · refine z_iconst 18 (v := (-1)) dX10_mark_17 rfl rfl ?_
      refine z_ri dX10_mark_18 rfl ?_
      exact qm0 (if_pos hA) hX Fr.rf
    · refine z_iload_n 9 dX10_mark_8 rfl rfl ?_
      refine z_iconst 10 (v := nI 1) dX10_mark_9 rfl rfl ?_
      refine z_iconst 11 (v := nI 5) dX10_mark_10 rfl rfl ?_
      refine z_cSI3 14 (tX10_in) kX10_in dX10_mark_11 rfl lX10_91 (Nat.le_of_ble_eq_true rfl) ?_
      rintro _ _ ⟨e1, e2⟩
      replace e1 := e1.symm
      replace e2 := e2.symm
      subst e1
      subst e2
      refine z_ifb_ne 19 17 dX10_mark_14 (by decide) rfl (fun h14 => ?_) (fun h14 => ?_)
      · exact absurd ⟨h5, h14⟩ hA
      · refine z_iconst 18 (v := (-1)) dX10_mark_17 rfl rfl ?_
        refine z_ri dX10_mark_18 rfl ?_
        exact qm0 (if_pos hA) hX Fr.rf
  have e0 : spMark S p k = _ := if_neg hA
  have hA : inN p (sPc S) ∧ nI 1 ≤ k ∧ k ≤ nI 5 := Classical.byContradiction hA
  have hA1 := hA.1
  have hA2 := hA.2
  obtain ⟨p, hp, rfl⟩ := inN_of hA.1
  obtain ⟨k, hk1, hk5, rfl⟩ := in15 (by decide) (by decide) hA.2
  rw [zx_nI (by omega), zx_nI (by omega)] at e0
  obtain ⟨o1, o2, o3, o4, o5⟩ := plOK hW hp
  have hw0 : 0 < sBw S 0 := Nat.lt_of_le_of_lt (Nat.zero_le _) o5
  have hpy := hX.py hp
  obtain ⟨a1, a2, a3, a4⟩ := hX.py hp
  refine Ret.of [some (zr E 102), some (.int (nI p)), some (.int (nI k)), none, none, none] (by decide +kernel) (Nat.le_of_ble_eq_true rfl) rfl ?_
  by_cases hI : ¬ ((sPl S p).1 = k ∨ (sPl S p).1 = 4 ∧ k = 1)
  · rw [if_pos hI] at e0
    refine z_aload_n 1 dX10_mark_0 rfl rfl ?_
    refine z_iload_n 2 dX10_mark_1 rfl rfl ?_
    refine z_cVI1 5 (tX10_isPlayer (by assumption) (by assumption)) kX10_isPlayer dX10_mark_2 rfl lX10_162 (by first | assumption | rfl) (Nat.le_of_ble_eq_true rfl) ?_
    rintro _ _ ⟨e1, e2⟩
    replace e1 := e1.symm
    replace e2 := e2.symm
    subst e1
    subst e2
    refine z_ifb_eq 17 8 dX10_mark_5 (by decide) rfl (fun h5 => ?_) (fun h5 => ?_)
    · exact absurd hA1 h5
    · refine z_iload_n 9 dX10_mark_8 rfl rfl ?_
      refine z_iconst 10 (v := nI 1) dX10_mark_9 rfl rfl ?_
      refine z_iconst 11 (v := nI 5) dX10_mark_10 rfl rfl ?_
      refine z_cSI3 14 (tX10_in) kX10_in dX10_mark_11 rfl lX10_91 (Nat.le_of_ble_eq_true rfl) ?_
      rintro _ _ ⟨e1, e2⟩
      replace e1 := e1.symm
      replace e2 := e2.symm
      subst e1
      subst e2
      refine z_ifb_ne 19 17 dX10_mark_14 (by decide) rfl (fun h14 => ?_) (fun h14 => ?_)
      · refine z_aload_n 20 dX10_mark_19 rfl rfl ?_
        refine z_iload_n 21 dX10_mark_20 rfl rfl ?_
        refine z_iconst 22 (v := nI 0) dX10_mark_21 rfl rfl ?_
        refine z_cVI2 25 (tX10_tell (by omega) (by omega)) kX10_tell dX10_mark_22 rfl lX10_165 (by first | assumption | rfl) (Nat.le_of_ble_eq_true rfl) ?_
        rintro _ _ ⟨e1, e2⟩
        replace e1 := e1.symm
        replace e2 := e2.symm
        subst e1
        subst e2
        rw [a1]
        refine z_iload_n 26 dX10_mark_25 rfl rfl ?_
        refine z_icmp_eq 48 29 dX10_mark_26 (by decide) rfl (fun h26 => ?_) (fun h26 => ?_)
        · (try rw [nI_eq (by omega) (by omega)] at h26)
          omega
        · (try rw [nI_eq (by omega) (by omega)] at h26)
          refine z_iload_n 30 dX10_mark_29 rfl rfl ?_
          refine z_iconst 31 (v := nI 1) dX10_mark_30 rfl rfl ?_
          refine z_icmp_ne 42 34 dX10_mark_31 (by decide) rfl (fun h31 => ?_) (fun h31 => ?_)
          · (try rw [nI_eq (by omega) (by omega)] at h31)
            refine z_aload_n 43 dX10_mark_42 rfl rfl ?_
            refine z_iconst 44 (v := nI 3) dX10_mark_43 rfl rfl ?_
            refine z_cVI1 47 (tX10_meets (by omega)) kX10_meets dX10_mark_44 rfl lX10_99 (by first | assumption | rfl) (Nat.le_of_ble_eq_true rfl) ?_
            rintro _ _ ⟨e1, e2⟩
            replace e1 := e1.symm
            replace e2 := e2.symm
            subst e1
            subst e2
            refine z_ri dX10_mark_47 rfl ?_
            exact qmf hW e0 (by decide) hX Fr.rf
          · (try rw [nI_eq (by omega) (by omega)] at h31)
            refine z_aload_n 35 dX10_mark_34 rfl rfl ?_
            refine z_iload_n 36 dX10_mark_35 rfl rfl ?_
            refine z_cVI1 39 (tX10_isSloppy (by omega) (by first | assumption | rfl) (by omega)) kX10_isSloppy dX10_mark_36 rfl lX10_168 (by first | assumption | rfl) (Nat.le_of_ble_eq_true rfl) ?_
            rintro _ _ ⟨e1, e2⟩
            replace e1 := e1.symm
            replace e2 := e2.symm
            subst e1
            subst e2
            refine z_ifb_ne 48 42 dX10_mark_39 (by decide) rfl (fun h39 => ?_) (fun h39 => ?_)
            · omega
            · refine z_aload_n 43 dX10_mark_42 rfl rfl ?_
              refine z_iconst 44 (v := nI 3) dX10_mark_43 rfl rfl ?_
              refine z_cVI1 47 (tX10_meets (by omega)) kX10_meets dX10_mark_44 rfl lX10_99 (by first | assumption | rfl) (Nat.le_of_ble_eq_true rfl) ?_
              rintro _ _ ⟨e1, e2⟩
              replace e1 := e1.symm
              replace e2 := e2.symm
              subst e1
              subst e2
              refine z_ri dX10_mark_47 rfl ?_
              exact qmf hW e0 (by decide) hX Fr.rf
      · exact absurd hA2 h14
  rw [if_neg hI] at e0
  have hI : (sPl S p).1 = k ∨ (sPl S p).1 = 4 ∧ k = 1 := Classical.byContradiction hI
  have s48 : At E mX10_mark (d + 6) (qM σ (spMark S (nI p) (nI k))) 48 [some (zr E 102), some (.int (nI p)), some (.int (nI k)), none, none, none] [] σ := by
    have h5' : k = 1 ∨ k = 3 ∨ k = 5 ∨ k = 2 ∨ k = 4 := by omega
    rcases h5' with rfl | rfl | rfl | rfl | rfl
    · refine z_iload_n 49 dX10_mark_48 rfl rfl ?_
      refine z_iconst 50 (v := nI 1) dX10_mark_49 rfl rfl ?_
      refine z_icmp_ne 64 53 dX10_mark_50 (by decide) rfl (fun h50 => ?_) (fun h50 => ?_)
      · (try rw [nI_eq (by omega) (by omega)] at h50)
        omega
      · (try rw [nI_eq (by omega) (by omega)] at h50)
        refine z_aload_n 54 dX10_mark_53 rfl rfl ?_
        refine z_iload_n 55 dX10_mark_54 rfl rfl ?_
        refine z_iconst 56 (v := nI 0) dX10_mark_55 rfl rfl ?_
        refine z_cVV2 59 (tX10_setDrawing (bw := sBw S 0) (u := sUs S (sPl S p).2.1) (show p < 9 by omega) (hX.py hp) o1 o2 o3 o4 (hX.bxp hW hp) hw0 (usLe hW hp hw0)) kX10_setDrawing dX10_mark_56 rfl lX10_174 (by first | assumption | rfl) (Nat.le_of_ble_eq_true rfl) ?_
        rintro τ1 ⟨hF1, hD1⟩
        refine z_aload_n 60 dX10_mark_59 rfl rfl ?_
        refine gX10_171 63 rfl dX10_mark_60 rfl ?_
        rw [hD1.1]
        refine z_ri dX10_mark_63 rfl ?_
        exact qm0 e0 (hX.scr hW (hF1.mono (by unfold mS; intros; omega))) (hF1.mono (by intros; omega))
    · refine z_iload_n 49 dX10_mark_48 rfl rfl ?_
      refine z_iconst 50 (v := nI 1) dX10_mark_49 rfl rfl ?_
      refine z_icmp_ne 64 53 dX10_mark_50 (by decide) rfl (fun h50 => ?_) (fun h50 => ?_)
      · (try rw [nI_eq (by omega) (by omega)] at h50)
        refine z_iload_n 65 dX10_mark_64 rfl rfl ?_
        refine z_iconst 66 (v := nI 3) dX10_mark_65 rfl rfl ?_
        refine z_icmp_ne 76 69 dX10_mark_66 (by decide) rfl (fun h66 => ?_) (fun h66 => ?_)
        · (try rw [nI_eq (by omega) (by omega)] at h66)
          omega
        · (try rw [nI_eq (by omega) (by omega)] at h66)
          refine z_aload_n 70 dX10_mark_69 rfl rfl ?_
          refine z_iload_n 71 dX10_mark_70 rfl rfl ?_
          refine z_iconst 72 (v := nI 2) dX10_mark_71 rfl rfl ?_
          refine z_cVI2 75 (tX10_tell (by omega) (by omega)) kX10_tell dX10_mark_72 rfl lX10_165 (by first | assumption | rfl) (Nat.le_of_ble_eq_true rfl) ?_
          rintro _ _ ⟨e1, e2⟩
          replace e1 := e1.symm
          replace e2 := e2.symm
          subst e1
          subst e2
          rw [a3]
          refine z_ri dX10_mark_75 rfl ?_
          exact qm0 e0 hX Fr.rf
      · (try rw [nI_eq (by omega) (by omega)] at h50)
        omega
    · have loop : ∀ i, i ≤ sPc S → ∀ τ, Fr mS σ τ → RM S τ → At E mX10_mark (d + 6) (qM σ (spMark S (nI p) (nI 5))) 86 [some (zr E 102), some (.int (nI p)), some (.int (nI 5)), some (.int (nI (fsum (rd0 S p) i))), some (.int (nI i)), none] [] τ := by
        refine z_up (fun i hi ih τ hF hR => ?_)
        have hpt : gi τ 102 13 = nI (sPc S) := hR.2.2.2.1.1
        by_cases hie : i = sPc S
        · subst hie
          refine z_iload 88 dX10_mark_86 rfl rfl ?_
          refine z_aload_n 89 dX10_mark_88 rfl rfl ?_
          refine gX10_138 92 rfl dX10_mark_89 rfl ?_
          rw [hpt]
          refine z_icmp_ge 149 95 dX10_mark_92 (by decide) rfl (fun h92 => ?_) (fun h92 => ?_)
          · (try rw [nI_leI (by omega) (by omega)] at h92)
            refine z_iload_n 150 dX10_mark_149 rfl rfl ?_
            refine z_ri dX10_mark_150 rfl ?_
            exact qm0 e0 hR (hF.mono (by unfold mS; intros; omega))
          · (try rw [nI_leI (by omega) (by omega)] at h92)
            omega
        · have hil : i < sPc S := by omega
          have hP := dS_pts hW hil hw0
          have l1 : shD S p i 0 none 0 ≤ 24 := shN_le hW hp (dS S i 0).length (fun k => (dS S i 0).getD k 0) none hw0
          have l2 : shD S p i 0 (some i) 0 ≤ 24 := shN_le hW hp (dS S i 0).length (fun k => (dS S i 0).getD k 0) (some i) hw0
          refine z_iload 88 dX10_mark_86 rfl rfl ?_
          refine z_aload_n 89 dX10_mark_88 rfl rfl ?_
          refine gX10_138 92 rfl dX10_mark_89 rfl ?_
          rw [hpt]
          refine z_icmp_ge 149 95 dX10_mark_92 (by decide) rfl (fun h92 => ?_) (fun h92 => ?_)
          · (try rw [nI_leI (by omega) (by omega)] at h92)
            omega
          · (try rw [nI_leI (by omega) (by omega)] at h92)
            refine z_aload_n 96 dX10_mark_95 rfl rfl ?_
            refine z_iload 98 dX10_mark_96 rfl rfl ?_
            refine z_iconst 99 (v := nI 0) dX10_mark_98 rfl rfl ?_
            refine z_cVV2 102 (tX10_seeS hW hR hil hw0) kX10_see dX10_mark_99 rfl lX10_190 (by first | assumption | rfl) (Nat.le_of_ble_eq_true rfl) ?_
            rintro τ1 ⟨hF1, hX1, hD1⟩
            refine z_aload_n 103 dX10_mark_102 rfl rfl ?_
            refine z_iload_n 104 dX10_mark_103 rfl rfl ?_
            refine z_bipush 106 (v := (-9)) dX10_mark_104 rfl rfl ?_
            refine z_cVV2 109 (tX10_sharesS (o := none) hW hX1 hp hD1 hP mByV.none) kX10_setShares dX10_mark_106 rfl lX10_193 (by first | assumption | rfl) (Nat.le_of_ble_eq_true rfl) ?_
            rintro τ2 ⟨hF2, hX2, hS2⟩
            refine z_aload_n 110 dX10_mark_109 rfl rfl ?_
            refine gX10_50 113 rfl dX10_mark_110 rfl ?_
            refine z_iconst 114 (v := nI 0) dX10_mark_113 rfl rfl ?_
            refine z_ialdn 115 dX10_mark_114 rfl (by first | assumption | rfl) (by omega) ?_
            rw [hS2 0 hw0, show hSh (gSS S p (dS S i 0).length (fun k => (dS S i 0).getD k 0) none) (sBw S 0) (fv S p) 0 = shD S p i 0 none 0 from rfl]
            refine zs_istore_5_6 117 rfl dX10_mark_115 rfl rfl ?_
            refine z_aload_n 118 dX10_mark_117 rfl rfl ?_
            refine z_iload_n 119 dX10_mark_118 rfl rfl ?_
            refine z_iload 121 dX10_mark_119 rfl rfl ?_
            refine z_cVV2 124 (tX10_sharesS (o := some i) hW hX2 hp (hD1.fr hF2 (by omega) (by intros; omega)) hP (hX2.by hW hil)) kX10_setShares dX10_mark_121 rfl lX10_193 (by first | assumption | rfl) (Nat.le_of_ble_eq_true rfl) ?_
            rintro τ3 ⟨hF3, hX3, hS3⟩
            have hF4 : Fr mS σ τ3 := ((hF.tr hF1 (R := mS) (fun _ _ h => h) (by unfold mS; intros; omega)).tr hF2 (R := mS) (fun _ _ h => h) (by unfold mS; intros; omega)).tr hF3 (fun _ _ h => h) (by unfold mS; intros; omega)
            refine z_iload_n 125 dX10_mark_124 rfl rfl ?_
            refine z_aload_n 126 dX10_mark_125 rfl rfl ?_
            refine gX10_50 129 rfl dX10_mark_126 rfl ?_
            refine z_iconst 130 (v := nI 0) dX10_mark_129 rfl rfl ?_
            refine z_ialdn 131 dX10_mark_130 rfl (by first | assumption | rfl) (by omega) ?_
            rw [hS3 0 hw0, show hSh (gSS S p (dS S i 0).length (fun k => (dS S i 0).getD k 0) (some i)) (sBw S 0) (fv S p) 0 = shD S p i 0 (some i) 0 from rfl]
            refine z_iload 133 dX10_mark_131 rfl rfl ?_
            refine z_icmp_le 140 136 dX10_mark_133 (by decide) rfl (fun h133 => ?_) (fun h133 => ?_)
            · (try rw [nI_leI (by omega) (by omega)] at h133)
              have er : rd0 S p i = 0 := if_neg (by omega)
              refine z_iconst 141 (v := nI 0) dX10_mark_140 rfl rfl ?_
              refine z_iadd 142 dX10_mark_141 rfl ?_
              rw [nI_add]
              refine zs_istore_n_3_6 143 rfl dX10_mark_142 rfl rfl ?_
              refine zs_iinc_4_6_1 146 rfl dX10_mark_143 rfl rfl ?_
              rw [nI_add]
              refine z_goto 86 dX10_mark_146 rfl ?_
              have hih := ih (i + 1) (by omega) (by omega) τ3 hF4 hX3
              rw [fsum, er] at hih
              exact zf_5_6 hih
            · (try rw [nI_leI (by omega) (by omega)] at h133)
              have er : rd0 S p i = 1 := if_pos (by omega)
              refine z_iconst 137 (v := nI 1) dX10_mark_136 rfl rfl ?_
              refine z_goto 141 dX10_mark_137 rfl ?_
              refine z_iadd 142 dX10_mark_141 rfl ?_
              rw [nI_add]
              refine zs_istore_n_3_6 143 rfl dX10_mark_142 rfl rfl ?_
              refine zs_iinc_4_6_1 146 rfl dX10_mark_143 rfl rfl ?_
              rw [nI_add]
              refine z_goto 86 dX10_mark_146 rfl ?_
              have hih := ih (i + 1) (by omega) (by omega) τ3 hF4 hX3
              rw [fsum, er] at hih
              exact zf_5_6 hih
      refine z_iload_n 49 dX10_mark_48 rfl rfl ?_
      refine z_iconst 50 (v := nI 1) dX10_mark_49 rfl rfl ?_
      refine z_icmp_ne 64 53 dX10_mark_50 (by decide) rfl (fun h50 => ?_) (fun h50 => ?_)
      · (try rw [nI_eq (by omega) (by omega)] at h50)
        refine z_iload_n 65 dX10_mark_64 rfl rfl ?_
        refine z_iconst 66 (v := nI 3) dX10_mark_65 rfl rfl ?_
        refine z_icmp_ne 76 69 dX10_mark_66 (by decide) rfl (fun h66 => ?_) (fun h66 => ?_)
        · (try rw [nI_eq (by omega) (by omega)] at h66)
          refine z_iload_n 77 dX10_mark_76 rfl rfl ?_
          refine z_iconst 78 (v := nI 5) dX10_mark_77 rfl rfl ?_
          refine z_icmp_ne 151 81 dX10_mark_78 (by decide) rfl (fun h78 => ?_) (fun h78 => ?_)
          · (try rw [nI_eq (by omega) (by omega)] at h78)
            omega
          · (try rw [nI_eq (by omega) (by omega)] at h78)
            refine z_iconst 82 (v := nI 0) dX10_mark_81 rfl rfl ?_
            refine zs_istore_n_3_6 83 rfl dX10_mark_82 rfl rfl ?_
            refine z_iconst 84 (v := nI 0) dX10_mark_83 rfl rfl ?_
            refine zs_istore_4_6 86 rfl dX10_mark_84 rfl rfl ?_
            exact loop 0 (Nat.zero_le _) σ Fr.rf hX
        · (try rw [nI_eq (by omega) (by omega)] at h66)
          omega
      · (try rw [nI_eq (by omega) (by omega)] at h50)
        omega
    · refine z_iload_n 49 dX10_mark_48 rfl rfl ?_
      refine z_iconst 50 (v := nI 1) dX10_mark_49 rfl rfl ?_
      refine z_icmp_ne 64 53 dX10_mark_50 (by decide) rfl (fun h50 => ?_) (fun h50 => ?_)
      · (try rw [nI_eq (by omega) (by omega)] at h50)
        refine z_iload_n 65 dX10_mark_64 rfl rfl ?_
        refine z_iconst 66 (v := nI 3) dX10_mark_65 rfl rfl ?_
        refine z_icmp_ne 76 69 dX10_mark_66 (by decide) rfl (fun h66 => ?_) (fun h66 => ?_)
        · (try rw [nI_eq (by omega) (by omega)] at h66)
          refine z_iload_n 77 dX10_mark_76 rfl rfl ?_
          refine z_iconst 78 (v := nI 5) dX10_mark_77 rfl rfl ?_
          refine z_icmp_ne 151 81 dX10_mark_78 (by decide) rfl (fun h78 => ?_) (fun h78 => ?_)
          · (try rw [nI_eq (by omega) (by omega)] at h78)
            refine z_aload_n 152 dX10_mark_151 rfl rfl ?_
            refine z_iconst 153 (v := nI 1) dX10_mark_152 rfl rfl ?_
            refine z_cVV1 156 (tX10_seeSet (s := 1) (by decide) (by decide)) kX10_seeSet dX10_mark_153 rfl lX10_196 (by first | assumption | rfl) (Nat.le_of_ble_eq_true rfl) ?_
            rintro τ1 ⟨hF1, hD1⟩
            have hX1 : RM S τ1 := hX.scr hW (hF1.mono (by unfold mS; intros; omega))
            obtain ⟨b1, b2, b3, b4⟩ := hX1.py hp
            refine z_aload_n 157 dX10_mark_156 rfl rfl ?_
            refine z_iload_n 158 dX10_mark_157 rfl rfl ?_
            refine z_bipush 160 (v := (-9)) dX10_mark_158 rfl rfl ?_
            refine z_cVV2 163 (tX10_sharesS (n := b1n) (g := b1g) (o := none) hW hX1 hp hD1 b1_pts mByV.none) kX10_setShares dX10_mark_160 rfl lX10_193 (by first | assumption | rfl) (Nat.le_of_ble_eq_true rfl) ?_
            rintro τ2 ⟨hF2, hX2, hS2⟩
            obtain ⟨c1, c2, c3, c4⟩ := hX2.py hp
            refine z_iload_n 164 dX10_mark_163 rfl rfl ?_
            refine z_iconst 165 (v := nI 2) dX10_mark_164 rfl rfl ?_
            refine z_icmp_ne 182 168 dX10_mark_165 (by decide) rfl (fun h165 => ?_) (fun h165 => ?_)
            · (try rw [nI_eq (by omega) (by omega)] at h165)
              omega
            · (try rw [nI_eq (by omega) (by omega)] at h165)
              refine z_aload_n 169 dX10_mark_168 rfl rfl ?_
              refine gX10_50 172 rfl dX10_mark_169 rfl ?_
              refine z_aload_n 173 dX10_mark_172 rfl rfl ?_
              refine z_iload_n 174 dX10_mark_173 rfl rfl ?_
              refine z_iconst 175 (v := nI 3) dX10_mark_174 rfl rfl ?_
              refine z_cVI2 178 (tX10_tell (by omega) (by omega)) kX10_tell dX10_mark_175 rfl lX10_165 (by first | assumption | rfl) (Nat.le_of_ble_eq_true rfl) ?_
              rintro _ _ ⟨e1, e2⟩
              replace e1 := e1.symm
              replace e2 := e2.symm
              subst e1
              subst e2
              rw [c4]
              refine z_ialdn 179 dX10_mark_178 rfl (by first | assumption | rfl) (by omega) ?_
              rw [hS2 _ o5]
              refine z_goto 186 dX10_mark_179 rfl ?_
              refine z_ri dX10_mark_186 rfl ?_
              exact qm0 e0 hX2 (hF1.tr hF2 (by intros; omega) (by intros; omega))
          · (try rw [nI_eq (by omega) (by omega)] at h78)
            omega
        · (try rw [nI_eq (by omega) (by omega)] at h66)
          omega
      · (try rw [nI_eq (by omega) (by omega)] at h50)
        omega
    · refine z_iload_n 49 dX10_mark_48 rfl rfl ?_
      refine z_iconst 50 (v := nI 1) dX10_mark_49 rfl rfl ?_
      refine z_icmp_ne 64 53 dX10_mark_50 (by decide) rfl (fun h50 => ?_) (fun h50 => ?_)
      · (try rw [nI_eq (by omega) (by omega)] at h50)
        refine z_iload_n 65 dX10_mark_64 rfl rfl ?_
        refine z_iconst 66 (v := nI 3) dX10_mark_65 rfl rfl ?_
        refine z_icmp_ne 76 69 dX10_mark_66 (by decide) rfl (fun h66 => ?_) (fun h66 => ?_)
        · (try rw [nI_eq (by omega) (by omega)] at h66)
          refine z_iload_n 77 dX10_mark_76 rfl rfl ?_
          refine z_iconst 78 (v := nI 5) dX10_mark_77 rfl rfl ?_
          refine z_icmp_ne 151 81 dX10_mark_78 (by decide) rfl (fun h78 => ?_) (fun h78 => ?_)
          · (try rw [nI_eq (by omega) (by omega)] at h78)
            refine z_aload_n 152 dX10_mark_151 rfl rfl ?_
            refine z_iconst 153 (v := nI 1) dX10_mark_152 rfl rfl ?_
            refine z_cVV1 156 (tX10_seeSet (s := 1) (by decide) (by decide)) kX10_seeSet dX10_mark_153 rfl lX10_196 (by first | assumption | rfl) (Nat.le_of_ble_eq_true rfl) ?_
            rintro τ1 ⟨hF1, hD1⟩
            have hX1 : RM S τ1 := hX.scr hW (hF1.mono (by unfold mS; intros; omega))
            refine z_aload_n 157 dX10_mark_156 rfl rfl ?_
            refine z_iload_n 158 dX10_mark_157 rfl rfl ?_
            refine z_bipush 160 (v := (-9)) dX10_mark_158 rfl rfl ?_
            refine z_cVV2 163 (tX10_sharesS (n := b1n) (g := b1g) (o := none) hW hX1 hp hD1 b1_pts mByV.none) kX10_setShares dX10_mark_160 rfl lX10_193 (by first | assumption | rfl) (Nat.le_of_ble_eq_true rfl) ?_
            rintro τ2 ⟨hF2, hX2, hS2⟩
            refine z_iload_n 164 dX10_mark_163 rfl rfl ?_
            refine z_iconst 165 (v := nI 2) dX10_mark_164 rfl rfl ?_
            refine z_icmp_ne 182 168 dX10_mark_165 (by decide) rfl (fun h165 => ?_) (fun h165 => ?_)
            · (try rw [nI_eq (by omega) (by omega)] at h165)
              refine z_aload_n 183 dX10_mark_182 rfl rfl ?_
              refine z_cVI0 186 (tX10_greatest (bw := sBw S 0) (fav := fv S p) (s := gSS S p b1n b1g none) hb8 o5 hX2.w0 hS2) kX10_greatest dX10_mark_183 rfl lX10_200 (by first | assumption | rfl) (Nat.le_of_ble_eq_true rfl) ?_
              rintro _ _ ⟨e1, e2⟩
              replace e1 := e1.symm
              replace e2 := e2.symm
              subst e1
              subst e2
              refine z_ri dX10_mark_186 rfl ?_
              exact qm0 e0 hX2 (hF1.tr hF2 (by intros; omega) (by intros; omega))
            · (try rw [nI_eq (by omega) (by omega)] at h165)
              omega
          · (try rw [nI_eq (by omega) (by omega)] at h78)
            omega
        · (try rw [nI_eq (by omega) (by omega)] at h66)
          omega
      · (try rw [nI_eq (by omega) (by omega)] at h50)
        omega
  refine z_aload_n 1 dX10_mark_0 rfl rfl ?_
  refine z_iload_n 2 dX10_mark_1 rfl rfl ?_
  refine z_cVI1 5 (tX10_isPlayer (by assumption) (by assumption)) kX10_isPlayer dX10_mark_2 rfl lX10_162 (by first | assumption | rfl) (Nat.le_of_ble_eq_true rfl) ?_
  rintro _ _ ⟨e1, e2⟩
  replace e1 := e1.symm
  replace e2 := e2.symm
  subst e1
  subst e2
  refine z_ifb_eq 17 8 dX10_mark_5 (by decide) rfl (fun h5 => ?_) (fun h5 => ?_)
  · exact absurd hA1 h5
  · refine z_iload_n 9 dX10_mark_8 rfl rfl ?_
    refine z_iconst 10 (v := nI 1) dX10_mark_9 rfl rfl ?_
    refine z_iconst 11 (v := nI 5) dX10_mark_10 rfl rfl ?_
    refine z_cSI3 14 (tX10_in) kX10_in dX10_mark_11 rfl lX10_91 (Nat.le_of_ble_eq_true rfl) ?_
    rintro _ _ ⟨e1, e2⟩
    replace e1 := e1.symm
    replace e2 := e2.symm
    subst e1
    subst e2
    refine z_ifb_ne 19 17 dX10_mark_14 (by decide) rfl (fun h14 => ?_) (fun h14 => ?_)
    · refine z_aload_n 20 dX10_mark_19 rfl rfl ?_
      refine z_iload_n 21 dX10_mark_20 rfl rfl ?_
      refine z_iconst 22 (v := nI 0) dX10_mark_21 rfl rfl ?_
      refine z_cVI2 25 (tX10_tell (by omega) (by omega)) kX10_tell dX10_mark_22 rfl lX10_165 (by first | assumption | rfl) (Nat.le_of_ble_eq_true rfl) ?_
      rintro _ _ ⟨e1, e2⟩
      replace e1 := e1.symm
      replace e2 := e2.symm
      subst e1
      subst e2
      rw [a1]
      refine z_iload_n 26 dX10_mark_25 rfl rfl ?_
      refine z_icmp_eq 48 29 dX10_mark_26 (by decide) rfl (fun h26 => ?_) (fun h26 => ?_)
      · (try rw [nI_eq (by omega) (by omega)] at h26)
        exact s48
      · (try rw [nI_eq (by omega) (by omega)] at h26)
        refine z_iload_n 30 dX10_mark_29 rfl rfl ?_
        refine z_iconst 31 (v := nI 1) dX10_mark_30 rfl rfl ?_
        refine z_icmp_ne 42 34 dX10_mark_31 (by decide) rfl (fun h31 => ?_) (fun h31 => ?_)
        · (try rw [nI_eq (by omega) (by omega)] at h31)
          omega
        · (try rw [nI_eq (by omega) (by omega)] at h31)
          refine z_aload_n 35 dX10_mark_34 rfl rfl ?_
          refine z_iload_n 36 dX10_mark_35 rfl rfl ?_
          refine z_cVI1 39 (tX10_isSloppy (by omega) (by first | assumption | rfl) (by omega)) kX10_isSloppy dX10_mark_36 rfl lX10_168 (by first | assumption | rfl) (Nat.le_of_ble_eq_true rfl) ?_
          rintro _ _ ⟨e1, e2⟩
          replace e1 := e1.symm
          replace e2 := e2.symm
          subst e1
          subst e2
          refine z_ifb_ne 48 42 dX10_mark_39 (by decide) rfl (fun h39 => ?_) (fun h39 => ?_)
          · exact s48
          · omega
    · exact absurd hA2 h14
