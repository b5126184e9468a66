/-! promises 16 to 18 -/
theorem plOK {S : sS} (hW : WF S) {p : Nat} (hp : p < sPc S) : PlOK (sPl S p) (sBw S 0) := by
  obtain ⟨a1, a2, a3, a4, a5, a6⟩ := hW.2.1.2 p hp
  exact ⟨a1, a2, a3, a4, a5⟩
theorem plBw {S : sS} (hW : WF S) {p : Nat} (hp : p < sPc S) : sBw S (sPl S p).2.1 = sBw S 0 := (hW.2.1.2 p hp).2.2.2.2.2
theorem RX.bxp {S : sS} {σ : zM} (hW : WF S) (h : RX S σ) {p : Nat} (hp : p < sPc S) : Bx σ (44 + 2 * (sPl S p).2.1) (sBw S 0) (sUs S (sPl S p).2.1) := by
  have := h.bx hW (plOK hW hp).2.1
  rwa [plBw hW hp] at this
theorem RM.bxp {S : sS} {σ : zM} (hW : WF S) (h : RM S σ) {p : Nat} (hp : p < sPc S) : mBx σ (sPl S p).2.1 (sBw S 0) (sUs S (sPl S p).2.1) := by
  have := h.bx hW (plOK hW hp).2.1
  rwa [plBw hW hp] at this
theorem usLe {S : sS} (hW : WF S) {p w : Nat} (hp : p < sPc S) (hw : w < sBw S 0) : ∀ k, k < 10 → sUs S (sPl S p).2.1 w k ≤ 9 := ((hW.1 _ (plOK hW hp).2.1).2 w (by rw [plBw hW hp]; exact hw)).1
theorem usPos {S : sS} (hW : WF S) {p w : Nat} (hp : p < sPc S) (hw : w < sBw S 0) : ∃ k, k < 10 ∧ 0 < sUs S (sPl S p).2.1 w k := ((hW.1 _ (plOK hW hp).2.1).2 w (by rw [plBw hW hp]; exact hw)).2
theorem uz_eq {bw w : Nat} {u : Nat → Nat → Nat} (hw : w < bw) : uz bw u w = u w := funext fun p => if_pos hw
/-- what one draws of a word -/
def dS (S : sS) (p w : Nat) : List Nat := dList (sUs S (sPl S p).2.1 w) (dMost (sPl S p))
theorem dS_pts {S : sS} (hW : WF S) {p w : Nat} (hp : p < sPc S) (hw : w < sBw S 0) : PtsOK (dS S p w).length (fun i => (dS S p w).getD i 0) := dList_pts (usLe hW hp hw) (plOK hW hp).2.2.1 (plOK hW hp).2.2.2.1 (usPos hW hp hw)
theorem dS_lt {S : sS} (hW : WF S) {p w : Nat} (hp : p < sPc S) (hw : w < sBw S 0) : bset (dS S p w) < 1024 := bset_lt (fun x hx => dList_lt (usLe hW hp hw) hx)
/-- by whom -/
def DB (S : sS) (o : Option Nat) : Nat → Nat := match o with
  | none => fun _ => 0
  | some p => fun w => bset (dS S p w)
theorem RX.by {E : zE} {S : sS} {σ : zM} (hW : WF S) (h : RX S σ) {p : Nat} (hp : p < sPc S) : ByV E σ (zr E (48 + 2 * p)) (sBw S 0) (DB S (some p)) := by
  have h8 := bw_le hW (show 0 < 2 by omega)
  have hp8 := hW.2.1.1
  refine Or.inr ⟨48 + 2 * p, rfl, kd_p (by omega), kd_p1 (by omega), fun w hw => ⟨?_, dS_lt hW hp hw⟩⟩
  rw [h.ds hp (show w < 8 by omega)]
  have e : us0 S.2.2.1 (sPl S p).2.1 w = sUs S (sPl S p).2.1 w := uz_eq (show w < sBw S (sPl S p).2.1 by rw [plBw hW hp]; exact hw)
  rw [e]
  rfl
theorem ByV.none {E : zE} {S : sS} {σ : zM} {bw : Nat} : ByV E σ .null bw (DB S none) := Or.inl ⟨rfl, fun _ => rfl⟩
theorem RM.by {S : sS} {σ : zM} (hW : WF S) (h : RM S σ) {p : Nat} (hp : p < sPc S) : mByV σ (nI p) (sBw S 0) (DB S (some p)) := Or.inr ⟨p, sPl S p, sUs S (sPl S p).2.1, rfl, by have := hW.2.1.1; omega, h.py hp, plOK hW hp, h.bxp hW hp, fun w hw => usLe hW hp hw, fun _ _ => rfl⟩
theorem mByV.none {S : sS} {σ : zM} {bw : Nat} : mByV σ (-9) bw (DB S none) := Or.inl ⟨by decide, fun _ => rfl⟩
def gSS (S : sS) (p n : Nat) (g : Nat → Nat) (o : Option Nat) : Nat → Nat := gS (sPl S p) (sUs S (sPl S p).2.1) n g (DB S o)
def fv (S : sS) (p : Nat) : Nat := (sPl S p).2.2.2
def shRow (S : sS) (p n : Nat) (g : Nat → Nat) (o : Option Nat) : sRow := some (sBw S 0, fun w => nI (hSh (gSS S p n g o) (sBw S 0) (fv S p) w))
def lRow (l : List Nat) : sRow := some (l.length, fun i => nI (l.getD i 0))
theorem Sh.cong {σ : zM} {a cap k : Nat} {f f' : Nat → Int32} (h : Sh σ a cap (some (k, f))) (hf : ∀ i, i < k → f i = f' i) : Sh σ a cap (some (k, f')) := ⟨h.1, h.2.1, fun i hi => (h.2.2 i hi).trans (hf i hi)⟩
def byO (v : Int32) : Option Nat := if v = -9 then none else some (zx v)
def spDraws (S : sS) (p w r : Int32) : Int32 × sS := if ¬ inN p (sPc S) ∨ ¬ inN w (sBw S 0) ∨ ¬ inN r 6 then (-1, S) else (nI (dS S (zx p) (zx w)).length, setR S (zx r) (lRow (dS S (zx p) (zx w))))
set_option maxRecDepth 20000 in
theorem tX9_draws {E : zE} {d : Nat} {σ : zM} {S : sS} {p w r : Int32} (hW : WF S) (hX : RX S σ) : Ret E mX9_draws (d + 3) [zr E 0, .int p, .int w, .int r] σ (qX σ (spDraws S p w r)) := by
  have h8 := hW.2.1.1
  have hb8 := bw_le hW (show 0 < 2 by omega)
  by_cases hA : ¬ inN p (sPc S) ∨ ¬ inN w (sBw S 0) ∨ ¬ inN r 6
  · refine Ret.of [some (zr E 0), some (.int p), some (.int w), some (.int r)] (by decide +kernel) (Nat.le_of_ble_eq_true rfl) rfl ?_
    refine z_aload_n 1 dX9_draws_0 rfl rfl ?_
    refine z_iload_n 2 dX9_draws_1 rfl rfl ?_
    refine z_cVI1 5 (tX9_isPl (by assumption) (by assumption)) kX9_isPlayer dX9_draws_2 rfl lX9_176 (by first | assumption | rfl) (Nat.le_of_ble_eq_true rfl) ?_
    rintro _ _ ⟨e1, e2⟩
    replace e1 := e1.symm
    replace e2 := e2.symm
    subst e1
    subst e2
    refine z_ifb_eq 23 8 dX9_draws_5 (by decide) rfl (fun h5 => ?_) (fun h5 => ?_)
    · refine z_iconst 24 (v := (-1)) dX9_draws_23 rfl rfl ?_
      refine z_ri dX9_draws_24 rfl ?_
      exact qx0 (if_pos hA) hX Fr.rf
    · refine z_aload_n 9 dX9_draws_8 rfl rfl ?_
      refine z_iload_n 10 dX9_draws_9 rfl rfl ?_
      refine z_cVI1 13 (tX9_isWord (by assumption) (by assumption)) kX9_isWord dX9_draws_10 rfl lX9_165 (by first | assumption | rfl) (Nat.le_of_ble_eq_true rfl) ?_
      rintro _ _ ⟨e1, e2⟩
      replace e1 := e1.symm
      replace e2 := e2.symm
      subst e1
      subst e2
      refine z_ifb_eq 23 16 dX9_draws_13 (by decide) rfl (fun h13 => ?_) (fun h13 => ?_)
      · refine z_iconst 24 (v := (-1)) dX9_draws_23 rfl rfl ?_
        refine z_ri dX9_draws_24 rfl ?_
        exact qx0 (if_pos hA) hX Fr.rf
      · refine z_iload_n 17 dX9_draws_16 rfl rfl ?_
        refine z_cSI1 20 (tX9_isRow) kX9_isRow dX9_draws_17 rfl lX9_83 (Nat.le_of_ble_eq_true rfl) ?_
        rintro _ _ ⟨e1, e2⟩
        replace e1 := e1.symm
        replace e2 := e2.symm
        subst e1
        subst e2
        refine z_ifb_ne 25 23 dX9_draws_20 (by decide) rfl (fun h20 => ?_) (fun h20 => ?_)
        · exact absurd hA (fun z => z.elim (fun q => q h5) (fun z => z.elim (fun q => q h13) (fun q => q h20)))
        · refine z_iconst 24 (v := (-1)) dX9_draws_23 rfl rfl ?_
          refine z_ri dX9_draws_24 rfl ?_
          exact qx0 (if_pos hA) hX Fr.rf
  have hA1 : inN p (sPc S) := Classical.byContradiction fun q => hA (Or.inl q)
  have hA2 : inN w (sBw S 0) := Classical.byContradiction fun q => hA (Or.inr (Or.inl q))
  have hA3 : inN r 6 := Classical.byContradiction fun q => hA (Or.inr (Or.inr q))
  have e0 : spDraws S p w r = _ := if_neg hA
  have hA1' := hA1
  have hA2' := hA2
  have hA3' := hA3
  obtain ⟨p, hp, rfl⟩ := inN_of hA1
  obtain ⟨w, hw, rfl⟩ := inN_of hA2
  obtain ⟨r, hr, rfl⟩ := inN_of hA3
  rw [zx_nI (by omega), zx_nI (by omega), zx_nI (by omega)] at e0
  have hk := kd_r hr
  have hk1 := kd_r1 hr
  have hc := kd_p (show p < 8 by omega)
  obtain ⟨o1, o2, o3, o4, o5⟩ := plOK hW hp
  have hpt := dS_pts hW hp hw
  have l6 := hpt.2.1
  refine Ret.of [some (zr E 0), some (.int (nI p)), some (.int (nI w)), some (.int (nI r))] (by decide +kernel) (Nat.le_of_ble_eq_true rfl) rfl ?_
  refine z_aload_n 1 dX9_draws_0 rfl rfl ?_
  refine z_iload_n 2 dX9_draws_1 rfl rfl ?_
  refine z_cVI1 5 (tX9_isPl (by assumption) (by assumption)) kX9_isPlayer dX9_draws_2 rfl lX9_176 (by first | assumption | rfl) (Nat.le_of_ble_eq_true rfl) ?_
  rintro _ _ ⟨e1, e2⟩
  replace e1 := e1.symm
  replace e2 := e2.symm
  subst e1
  subst e2
  refine z_ifb_eq 23 8 dX9_draws_5 (by decide) rfl (fun h5 => ?_) (fun h5 => ?_)
  · exact absurd hA1' h5
  · refine z_aload_n 9 dX9_draws_8 rfl rfl ?_
    refine z_iload_n 10 dX9_draws_9 rfl rfl ?_
    refine z_cVI1 13 (tX9_isWord (by assumption) (by assumption)) kX9_isWord dX9_draws_10 rfl lX9_165 (by first | assumption | rfl) (Nat.le_of_ble_eq_true rfl) ?_
    rintro _ _ ⟨e1, e2⟩
    replace e1 := e1.symm
    replace e2 := e2.symm
    subst e1
    subst e2
    refine z_ifb_eq 23 16 dX9_draws_13 (by decide) rfl (fun h13 => ?_) (fun h13 => ?_)
    · exact absurd hA2' h13
    · refine z_iload_n 17 dX9_draws_16 rfl rfl ?_
      refine z_cSI1 20 (tX9_isRow) kX9_isRow dX9_draws_17 rfl lX9_83 (Nat.le_of_ble_eq_true rfl) ?_
      rintro _ _ ⟨e1, e2⟩
      replace e1 := e1.symm
      replace e2 := e2.symm
      subst e1
      subst e2
      refine z_ifb_ne 25 23 dX9_draws_20 (by decide) rfl (fun h20 => ?_) (fun h20 => ?_)
      · refine z_aload_n 26 dX9_draws_25 rfl rfl ?_
        refine gX9_46 29 rfl dX9_draws_26 rfl ?_
        refine z_aload_n 30 dX9_draws_29 rfl rfl ?_
        refine gX9_26 33 rfl dX9_draws_30 rfl ?_
        refine z_iload_n 34 dX9_draws_33 rfl rfl ?_
        refine z_aald4 35 dX9_draws_34 rfl (by omega) ?_
        refine z_iload_n 36 dX9_draws_35 rfl rfl ?_
        refine z_cVV2 39 (tX2_drawBy (a := 8) (b := 44 + 2 * (sPl S p).2.1) (bw := sBw S 0) (w := w) (u := sUs S (sPl S p).2.1) rfl rfl hc (kd_b o2) (kd_b1 o2) (hX.py hp) o1 o3 o4 (hX.bxp hW hp) (by rw [uz_eq hw]; exact usLe hW hp hw) (by omega)) kX2_drawBy dX9_draws_36 rfl lX9_185 (by first | assumption | rfl) (Nat.le_of_ble_eq_true rfl) ?_
        rintro τ1 ⟨hF1, hD1⟩
        rw [uz_eq hw] at hD1
        have hD1 : Dr τ1 8 (dS S p w) := hD1
        refine z_aload_n 40 dX9_draws_39 rfl rfl ?_
        refine gX9_11 43 rfl dX9_draws_40 rfl ?_
        refine z_iload_n 44 dX9_draws_43 rfl rfl ?_
        refine z_aald1 45 dX9_draws_44 rfl (by omega) ?_
        refine z_aload_n 46 dX9_draws_45 rfl rfl ?_
        refine gX9_46 49 rfl dX9_draws_46 rfl ?_
        refine gX9_208 52 rfl dX9_draws_49 rfl (by first | assumption | rfl) ?_
        refine z_aload_n 53 dX9_draws_52 rfl rfl ?_
        refine gX9_46 56 rfl dX9_draws_53 rfl ?_
        refine gX9_189 59 rfl dX9_draws_56 rfl (by first | assumption | rfl) ?_
        rw [hD1.1]
        refine z_cVV2 62 (tX7_take (b := 8 + 1) (cb := 6) hk hk1 rfl (by omega) (by omega)) kX7_take dX9_draws_59 rfl lX9_209 (by first | assumption | rfl) (Nat.le_of_ble_eq_true rfl) ?_
        rintro τ2 ⟨hF2, hS2⟩
        refine z_aload_n 63 dX9_draws_62 rfl rfl ?_
        refine gX9_46 66 rfl dX9_draws_63 rfl ?_
        refine gX9_189 69 rfl dX9_draws_66 rfl (by first | assumption | rfl) ?_
        rw [hF2.gi (by omega), hD1.1]
        refine z_ri dX9_draws_69 rfl ?_
        have hX1 : RX S τ1 := hX.scr hW (hF1.mono (by unfold xS; intros; omega))
        exact qx0 e0 (hX1.R hW hF2 hr (hS2.cong hD1.2)) (hF1.tr hF2 (by intros; omega) (by intros; omega))
      · exact absurd hA3' h20
set_option maxRecDepth 20000 in
theorem tX9_isDrawer {E : zE} {d : Nat} {σ : zM} {S : sS} {v : Int32} (hW : WF S) (hX : RX S σ) : Ret E mX9_isDrawer (d + 1) [zr E 0, .int v] σ (qI fun x τ => x = bI (decide (v = -9 ∨ inN v (sPc S))) ∧ τ = σ) := by
  refine Ret.of [some (zr E 0), some (.int v)] (by decide +kernel) (Nat.le_of_ble_eq_true rfl) rfl ?_
  refine z_iload_n 1 dX9_isDrawer_0 rfl rfl ?_
  refine z_bipush 3 (v := (-9)) dX9_isDrawer_1 rfl rfl ?_
  refine z_icmp_eq 14 6 dX9_isDrawer_3 (by decide) rfl (fun h3 => ?_) (fun h3 => ?_)
  · refine z_iconst 15 (v := nI 1) dX9_isDrawer_14 rfl rfl ?_
    refine z_goto 19 dX9_isDrawer_15 rfl ?_
    refine z_rz dX9_isDrawer_19 rfl (by first | exact Or.inl rfl | exact Or.inr rfl | exact bI_01 _ | assumption) ?_
    first | exact ⟨bI_t (Or.inl h3), rfl⟩ | exact ⟨bI_f (fun z => z.elim h3 h11), rfl⟩ | exact ⟨bI_t (Or.inr h11), rfl⟩
  · refine z_aload_n 7 dX9_isDrawer_6 rfl rfl ?_
    refine z_iload_n 8 dX9_isDrawer_7 rfl rfl ?_
    refine z_cVI1 11 (tX9_isPl (by assumption) (by assumption)) kX9_isPlayer dX9_isDrawer_8 rfl lX9_176 (by first | assumption | rfl) (Nat.le_of_ble_eq_true rfl) ?_
    rintro _ _ ⟨e1, e2⟩
    replace e1 := e1.symm
    replace e2 := e2.symm
    subst e1
    subst e2
    refine z_ifb_eq 18 14 dX9_isDrawer_11 (by decide) rfl (fun h11 => ?_) (fun h11 => ?_)
    · refine z_iconst 19 (v := nI 0) dX9_isDrawer_18 rfl rfl ?_
      refine z_rz dX9_isDrawer_19 rfl (by first | exact Or.inl rfl | exact Or.inr rfl | exact bI_01 _ | assumption) ?_
      first | exact ⟨bI_t (Or.inl h3), rfl⟩ | exact ⟨bI_f (fun z => z.elim h3 h11), rfl⟩ | exact ⟨bI_t (Or.inr h11), rfl⟩
    · refine z_iconst 15 (v := nI 1) dX9_isDrawer_14 rfl rfl ?_
      refine z_goto 19 dX9_isDrawer_15 rfl ?_
      refine z_rz dX9_isDrawer_19 rfl (by first | exact Or.inl rfl | exact Or.inr rfl | exact bI_01 _ | assumption) ?_
      first | exact ⟨bI_t (Or.inl h3), rfl⟩ | exact ⟨bI_f (fun z => z.elim h3 h11), rfl⟩ | exact ⟨bI_t (Or.inr h11), rfl⟩
set_option maxRecDepth 20000 in
theorem tX9_drawerN {E : zE} {d : Nat} {σ : zM} {S : sS} {v : Int32} (hW : WF S) (hX : RX S σ) (hv : ¬ inN v (sPc S)) : Ret E mX9_drawer (d + 1) [zr E 0, .int v] σ (qA fun x τ => x = .null ∧ τ = σ) := by
  refine Ret.of [some (zr E 0), some (.int v)] (by decide +kernel) (Nat.le_of_ble_eq_true rfl) rfl ?_
  refine z_aload_n 1 dX9_drawer_0 rfl rfl ?_
  refine z_iload_n 2 dX9_drawer_1 rfl rfl ?_
  refine z_cVI1 5 (tX9_isPl (by assumption) (by assumption)) kX9_isPlayer dX9_drawer_2 rfl lX9_176 (by first | assumption | rfl) (Nat.le_of_ble_eq_true rfl) ?_
  rintro _ _ ⟨e1, e2⟩
  replace e1 := e1.symm
  replace e2 := e2.symm
  subst e1
  subst e2
  refine z_ifb_eq 17 8 dX9_drawer_5 (by decide) rfl (fun h5 => ?_) (fun h5 => ?_)
  · refine z_null 18 dX9_drawer_17 rfl ?_
    refine z_ra dX9_drawer_18 rfl (Or.inl ⟨_, rfl⟩) (by first | exact Or.inl rfl | exact Or.inr ⟨_, rfl⟩) ?_
    exact ⟨rfl, rfl⟩
  · exact absurd h5 hv
set_option maxRecDepth 20000 in
theorem tX9_drawerP {E : zE} {d : Nat} {σ : zM} {S : sS} {p : Nat} (hW : WF S) (hX : RX S σ) (hp : p < sPc S) : Ret E mX9_drawer (d + 1) [zr E 0, .int (nI p)] σ (qA fun x τ => x = zr E (48 + 2 * p) ∧ τ = σ) := by
  have h8 := hW.2.1.1
  refine Ret.of [some (zr E 0), some (.int (nI p))] (by decide +kernel) (Nat.le_of_ble_eq_true rfl) rfl ?_
  refine z_aload_n 1 dX9_drawer_0 rfl rfl ?_
  refine z_iload_n 2 dX9_drawer_1 rfl rfl ?_
  refine z_cVI1 5 (tX9_isPl (by assumption) (by assumption)) kX9_isPlayer dX9_drawer_2 rfl lX9_176 (by first | assumption | rfl) (Nat.le_of_ble_eq_true rfl) ?_
  rintro _ _ ⟨e1, e2⟩
  replace e1 := e1.symm
  replace e2 := e2.symm
  subst e1
  subst e2
  refine z_ifb_eq 17 8 dX9_drawer_5 (by decide) rfl (fun h5 => ?_) (fun h5 => ?_)
  · exact absurd (inN_nI hp (by omega)) h5
  · refine z_aload_n 9 dX9_drawer_8 rfl rfl ?_
    refine gX9_26 12 rfl dX9_drawer_9 rfl ?_
    refine z_iload_n 13 dX9_drawer_12 rfl rfl ?_
    refine z_aald4 14 dX9_drawer_13 rfl (by omega) ?_
    refine z_goto 18 dX9_drawer_14 rfl ?_
    refine z_ra dX9_drawer_18 rfl (Or.inl ⟨_, rfl⟩) (by first | exact Or.inl rfl | exact Or.inr ⟨_, rfl⟩) ?_
    exact ⟨rfl, rfl⟩
def spGuess (S : sS) (p r v t : Int32) : Int32 × sS := if ¬ inN p (sPc S) ∨ ¬ inN r 6 ∨ ¬ (v = -9 ∨ inN v (sPc S)) ∨ ¬ inN t 6 then (-1, S) else if ¬ sDf (sR S (zx r)) = 0 then sFd S (sDf (sR S (zx r))) else (nI (hG (gSS S (zx p) (sSz (sR S (zx r))) (gOf (sR S (zx r))) (byO v)) (sBw S 0) (fv S (zx p))), setR S (zx t) (shRow S (zx p) (sSz (sR S (zx r))) (gOf (sR S (zx r))) (byO v)))
set_option maxRecDepth 20000 in
theorem tX9_guess {E : zE} {d : Nat} {σ : zM} {S : sS} {p r v t : Int32} (hW : WF S) (hX : RX S σ) : Ret E mX9_guess (d + 3) [zr E 0, .int p, .int r, .int v, .int t] σ (qX σ (spGuess S p r v t)) := by
  have h8 := hW.2.1.1
  have hb8 := bw_le hW (show 0 < 2 by omega)
  by_cases hA : ¬ inN p (sPc S) ∨ ¬ inN r 6 ∨ ¬ (v = -9 ∨ inN v (sPc S)) ∨ ¬ inN t 6
  · refine Ret.of [some (zr E 0), some (.int p), some (.int r), some (.int v), some (.int t), none] (by decide +kernel) (Nat.le_of_ble_eq_true rfl) rfl ?_
    refine z_aload_n 1 dX9_guess_0 rfl rfl ?_
    refine z_iload_n 2 dX9_guess_1 rfl rfl ?_
    refine z_cVI1 5 (tX9_isPl (by assumption) (by assumption)) kX9_isPlayer dX9_guess_2 rfl lX9_176 (by first | assumption | rfl) (Nat.le_of_ble_eq_true rfl) ?_
    rintro _ _ ⟨e1, e2⟩
    replace e1 := e1.symm
    replace e2 := e2.symm
    subst e1
    subst e2
    refine z_ifb_eq 31 8 dX9_guess_5 (by decide) rfl (fun h5 => ?_) (fun h5 => ?_)
    · refine z_iconst 32 (v := (-1)) dX9_guess_31 rfl rfl ?_
      refine z_ri dX9_guess_32 rfl ?_
      exact qx0 (if_pos hA) hX Fr.rf
    · refine z_iload_n 9 dX9_guess_8 rfl rfl ?_
      refine z_cSI1 12 (tX9_isRow) kX9_isRow dX9_guess_9 rfl lX9_83 (Nat.le_of_ble_eq_true rfl) ?_
      rintro _ _ ⟨e1, e2⟩
      replace e1 := e1.symm
      replace e2 := e2.symm
      subst e1
      subst e2
      refine z_ifb_eq 31 15 dX9_guess_12 (by decide) rfl (fun h12 => ?_) (fun h12 => ?_)
      · refine z_iconst 32 (v := (-1)) dX9_guess_31 rfl rfl ?_
        refine z_ri dX9_guess_32 rfl ?_
        exact qx0 (if_pos hA) hX Fr.rf
      · refine z_aload_n 16 dX9_guess_15 rfl rfl ?_
        refine z_iload_n 17 dX9_guess_16 rfl rfl ?_
        refine z_cVI1 20 (tX9_isDrawer (by assumption) (by assumption)) kX9_isDrawer dX9_guess_17 rfl lX9_213 (by first | assumption | rfl) (Nat.le_of_ble_eq_true rfl) ?_
        rintro _ _ ⟨e1, e2⟩
        replace e1 := e1.symm
        replace e2 := e2.symm
        subst e1
        subst e2
        refine z_ifb_eq 31 23 dX9_guess_20 (by decide) rfl (fun h20 => ?_) (fun h20 => ?_)
        · refine z_iconst 32 (v := (-1)) dX9_guess_31 rfl rfl ?_
          refine z_ri dX9_guess_32 rfl ?_
          exact qx0 (if_pos hA) hX Fr.rf
        · refine z_iload 25 dX9_guess_23 rfl rfl ?_
          refine z_cSI1 28 (tX9_isRow) kX9_isRow dX9_guess_25 rfl lX9_83 (Nat.le_of_ble_eq_true rfl) ?_
          rintro _ _ ⟨e1, e2⟩
          replace e1 := e1.symm
          replace e2 := e2.symm
          subst e1
          subst e2
          refine z_ifb_ne 33 31 dX9_guess_28 (by decide) rfl (fun h28 => ?_) (fun h28 => ?_)
          · exact absurd hA (fun z => z.elim (fun q => q h5) (fun z => z.elim (fun q => q h12) (fun z => z.elim (fun q => q h20) (fun q => q h28))))
          · refine z_iconst 32 (v := (-1)) dX9_guess_31 rfl rfl ?_
            refine z_ri dX9_guess_32 rfl ?_
            exact qx0 (if_pos hA) hX Fr.rf
  have hA1 : inN p (sPc S) := Classical.byContradiction fun q => hA (Or.inl q)
  have hA2 : inN r 6 := Classical.byContradiction fun q => hA (Or.inr (Or.inl q))
  have hA3 : v = -9 ∨ inN v (sPc S) := Classical.byContradiction fun q => hA (Or.inr (Or.inr (Or.inl q)))
  have hA4 : inN t 6 := Classical.byContradiction fun q => hA (Or.inr (Or.inr (Or.inr q)))
  have e0 : spGuess S p r v t = _ := if_neg hA
  have hA1' := hA1
  have hA2' := hA2
  have hA4' := hA4
  obtain ⟨p, hp, rfl⟩ := inN_of hA1
  obtain ⟨r, hr, rfl⟩ := inN_of hA2
  obtain ⟨t, ht, rfl⟩ := inN_of hA4
  rw [zx_nI (by omega), zx_nI (by omega), zx_nI (by omega)] at e0
  have hk := kd_r hr
  have hk1 := kd_r1 hr
  have hkt := kd_r ht
  have hkt1 := kd_r1 ht
  have hc := kd_p (show p < 8 by omega)
  have hS : Sh σ (24 + 2 * r) 40 (sR S r) := hX.1 r hr
  have hpl := sDf_lt (sR S r)
  obtain ⟨o1, o2, o3, o4, o5⟩ := plOK hW hp
  by_cases hD : sDf (sR S r) = 0
  · rw [if_neg (fun z => z hD)] at e0
    obtain ⟨q, hq, hpt, hqg⟩ := sDf0 hD
    have hsz : sSz (sR S r) = q.1 := by rw [hq]; rfl
    rw [hsz] at e0
    have hS' : Sh σ (24 + 2 * r) 40 (some q) := by rw [← hq]; exact hS
    have hfin : ∀ τ1, Fr (fun x y => x = 8 ∧ y = 1 ∨ x = 8 + 1) σ τ1 → DrG τ1 8 q.1 (gOf (sR S r)) → ∀ vv, ByV E τ1 vv (sBw S 0) (DB S (byO v)) → At E mX9_guess (d + 3) (qX σ (spGuess S (nI p) (nI r) v (nI t))) 91 [some (zr E 0), some (.int (nI p)), some (.int (nI r)), some (.int v), some (.int (nI t)), none] [vv, zr E 8, zr E (48 + 2 * p), zr E 10] τ1 := by
      intro τ1 hF1 hD1 vv hV
      have hX1 : RX S τ1 := hX.scr hW (hF1.mono (by unfold xS; intros; omega))
      refine z_cVV3 94 (tX6_reckon (a := 8) (b := 44 + 2 * (sPl S p).2.1) (bw := sBw S 0) (u := sUs S (sPl S p).2.1) (g := gOf (sR S r)) rfl rfl hc (kd_b o2) (kd_b1 o2) (hX1.py hp) o1 o5 (hX1.bxp hW hp) (fun w hw => usLe hW hp hw) hD1 hpt hV) kX6_reckon dX9_guess_91 rfl lX9_225 (by first | assumption | rfl) (Nat.le_of_ble_eq_true rfl) ?_
      rintro τ2 ⟨hF2, hS2⟩
      have hX2 : RX S τ2 := hX1.scr hW (hF2.mono (by unfold xS; intros; omega))
      refine z_aload_n 95 dX9_guess_94 rfl rfl ?_
      refine gX9_11 98 rfl dX9_guess_95 rfl ?_
      refine z_iload 100 dX9_guess_98 rfl rfl ?_
      refine z_aald1 101 dX9_guess_100 rfl (by omega) ?_
      refine z_aload_n 102 dX9_guess_101 rfl rfl ?_
      refine gX9_53 105 rfl dX9_guess_102 rfl ?_
      refine gX9_229 108 rfl dX9_guess_105 rfl (by first | assumption | rfl) ?_
      refine z_aload_n 109 dX9_guess_108 rfl rfl ?_
      refine gX9_53 112 rfl dX9_guess_109 rfl ?_
      refine gX9_232 115 rfl dX9_guess_112 rfl (by first | assumption | rfl) ?_
      rw [hS2.1]
      refine z_cVV2 118 (tX7_take (b := 10 + 2) (cb := 8) hkt hkt1 rfl (by omega) (by omega)) kX7_take dX9_guess_115 rfl lX9_209 (by first | assumption | rfl) (Nat.le_of_ble_eq_true rfl) ?_
      rintro τ3 ⟨hF3, hS3⟩
      refine z_aload_n 119 dX9_guess_118 rfl rfl ?_
      refine gX9_53 122 rfl dX9_guess_119 rfl ?_
      refine gX9_201 125 rfl dX9_guess_122 rfl (by first | assumption | rfl) ?_
      rw [hF3.gi (by omega), hS2.2.1]
      refine z_ri dX9_guess_125 rfl ?_
      exact qx0 e0 (hX2.R hW hF3 ht (hS3.cong hS2.2.2)) ((hF1.tr hF2 (R := xAll) (by intros; omega) (by intros; omega)).tr hF3 (fun _ _ h => h) (by intros; omega))
    rcases hA3 with rfl | hv
    · have hn : ¬ inN (-9) (sPc S) := fun z => z.1 (by decide)
      refine Ret.of [some (zr E 0), some (.int (nI p)), some (.int (nI r)), some (.int (-9)), some (.int (nI t)), none] (by decide +kernel) (Nat.le_of_ble_eq_true rfl) rfl ?_
      refine z_aload_n 1 dX9_guess_0 rfl rfl ?_
      refine z_iload_n 2 dX9_guess_1 rfl rfl ?_
      refine z_cVI1 5 (tX9_isPl (by assumption) (by assumption)) kX9_isPlayer dX9_guess_2 rfl lX9_176 (by first | assumption | rfl) (Nat.le_of_ble_eq_true rfl) ?_
      rintro _ _ ⟨e1, e2⟩
      replace e1 := e1.symm
      replace e2 := e2.symm
      subst e1
      subst e2
      refine z_ifb_eq 31 8 dX9_guess_5 (by decide) rfl (fun h5 => ?_) (fun h5 => ?_)
      · exact absurd hA1' h5
      · refine z_iload_n 9 dX9_guess_8 rfl rfl ?_
        refine z_cSI1 12 (tX9_isRow) kX9_isRow dX9_guess_9 rfl lX9_83 (Nat.le_of_ble_eq_true rfl) ?_
        rintro _ _ ⟨e1, e2⟩
        replace e1 := e1.symm
        replace e2 := e2.symm
        subst e1
        subst e2
        refine z_ifb_eq 31 15 dX9_guess_12 (by decide) rfl (fun h12 => ?_) (fun h12 => ?_)
        · exact absurd hA2' h12
        · refine z_aload_n 16 dX9_guess_15 rfl rfl ?_
          refine z_iload_n 17 dX9_guess_16 rfl rfl ?_
          refine z_cVI1 20 (tX9_isDrawer (by assumption) (by assumption)) kX9_isDrawer dX9_guess_17 rfl lX9_213 (by first | assumption | rfl) (Nat.le_of_ble_eq_true rfl) ?_
          rintro _ _ ⟨e1, e2⟩
          replace e1 := e1.symm
          replace e2 := e2.symm
          subst e1
          subst e2
          refine z_ifb_eq 31 23 dX9_guess_20 (by decide) rfl (fun h20 => ?_) (fun h20 => ?_)
          · exact absurd (Or.inl rfl) h20
          · refine z_iload 25 dX9_guess_23 rfl rfl ?_
            refine z_cSI1 28 (tX9_isRow) kX9_isRow dX9_guess_25 rfl lX9_83 (Nat.le_of_ble_eq_true rfl) ?_
            rintro _ _ ⟨e1, e2⟩
            replace e1 := e1.symm
            replace e2 := e2.symm
            subst e1
            subst e2
            refine z_ifb_ne 33 31 dX9_guess_28 (by decide) rfl (fun h28 => ?_) (fun h28 => ?_)
            · refine z_aload_n 34 dX9_guess_33 rfl rfl ?_
              refine gX9_11 37 rfl dX9_guess_34 rfl ?_
              refine z_iload_n 38 dX9_guess_37 rfl rfl ?_
              refine z_aald1 39 dX9_guess_38 rfl (by omega) ?_
              refine z_cVI0 42 (tX7_drawnFault hk hk1 hS) kX7_drawnFault dX9_guess_39 rfl lX9_216 (by first | assumption | rfl) (Nat.le_of_ble_eq_true rfl) ?_
              rintro _ _ ⟨e1, e2⟩
              replace e1 := e1.symm
              replace e2 := e2.symm
              subst e1
              subst e2
              rw [hD]
              refine zs_istore_5_6 44 rfl dX9_guess_42 rfl rfl ?_
              refine z_iload 46 dX9_guess_44 rfl rfl ?_
              refine z_if_eq 59 49 dX9_guess_46 (by decide) rfl (fun h46 => ?_) (fun h46 => ?_)
              · (try rw [nI_eq0 (by omega)] at h46)
                refine z_aload_n 60 dX9_guess_59 rfl rfl ?_
                refine gX9_46 63 rfl dX9_guess_60 rfl ?_
                refine z_aload_n 64 dX9_guess_63 rfl rfl ?_
                refine gX9_11 67 rfl dX9_guess_64 rfl ?_
                refine z_iload_n 68 dX9_guess_67 rfl rfl ?_
                refine z_aald1 69 dX9_guess_68 rfl (by omega) ?_
                refine z_cVV1 72 (tX2_take (a := 8) (g := gOf (sR S r)) rfl rfl hk hk1 hS' hpt.2.1 hqg) kX2_take dX9_guess_69 rfl lX9_219 (by first | assumption | rfl) (Nat.le_of_ble_eq_true rfl) ?_
                rintro τ1 ⟨hF1, hD1⟩
                have hX1 : RX S τ1 := hX.scr hW (hF1.mono (by unfold xS; intros; omega))
                refine z_aload_n 73 dX9_guess_72 rfl rfl ?_
                refine gX9_53 76 rfl dX9_guess_73 rfl ?_
                refine z_aload_n 77 dX9_guess_76 rfl rfl ?_
                refine gX9_26 80 rfl dX9_guess_77 rfl ?_
                refine z_iload_n 81 dX9_guess_80 rfl rfl ?_
                refine z_aald4 82 dX9_guess_81 rfl (by omega) ?_
                refine z_aload_n 83 dX9_guess_82 rfl rfl ?_
                refine gX9_46 86 rfl dX9_guess_83 rfl ?_
                refine z_aload_n 87 dX9_guess_86 rfl rfl ?_
                refine z_iload_n 88 dX9_guess_87 rfl rfl ?_
                refine z_cVA1 91 (tX9_drawerN hW hX1 hn) kX9_drawer dX9_guess_88 rfl lX9_221 (by first | assumption | rfl) (Nat.le_of_ble_eq_true rfl) ?_
                rintro _ _ ⟨e1, e2⟩
                replace e1 := e1.symm
                replace e2 := e2.symm
                subst e1
                subst e2
                exact zf_5_6 (hfin τ1 hF1 hD1 _ ByV.none)
              · (try rw [nI_eq0 (by omega)] at h46)
                exact absurd rfl h46
            · exact absurd hA4' h28
    · have hv' := hv
      obtain ⟨v, hv2, rfl⟩ := inN_of hv
      have hne : byO (nI v) = some v := by
        unfold byO
        rw [if_neg (fun z => absurd (nI_pos' (show v < 2 ^ 31 by omega)) (by rw [z]; decide)), zx_nI (by omega)]
      rw [hne] at hfin
      refine Ret.of [some (zr E 0), some (.int (nI p)), some (.int (nI r)), some (.int (nI v)), some (.int (nI t)), none] (by decide +kernel) (Nat.le_of_ble_eq_true rfl) rfl ?_
      refine z_aload_n 1 dX9_guess_0 rfl rfl ?_
      refine z_iload_n 2 dX9_guess_1 rfl rfl ?_
      refine z_cVI1 5 (tX9_isPl (by assumption) (by assumption)) kX9_isPlayer dX9_guess_2 rfl lX9_176 (by first | assumption | rfl) (Nat.le_of_ble_eq_true rfl) ?_
      rintro _ _ ⟨e1, e2⟩
      replace e1 := e1.symm
      replace e2 := e2.symm
      subst e1
      subst e2
      refine z_ifb_eq 31 8 dX9_guess_5 (by decide) rfl (fun h5 => ?_) (fun h5 => ?_)
      · exact absurd hA1' h5
      · refine z_iload_n 9 dX9_guess_8 rfl rfl ?_
        refine z_cSI1 12 (tX9_isRow) kX9_isRow dX9_guess_9 rfl lX9_83 (Nat.le_of_ble_eq_true rfl) ?_
        rintro _ _ ⟨e1, e2⟩
        replace e1 := e1.symm
        replace e2 := e2.symm
        subst e1
        subst e2
        refine z_ifb_eq 31 15 dX9_guess_12 (by decide) rfl (fun h12 => ?_) (fun h12 => ?_)
        · exact absurd hA2' h12
        · refine z_aload_n 16 dX9_guess_15 rfl rfl ?_
          refine z_iload_n 17 dX9_guess_16 rfl rfl ?_
          refine z_cVI1 20 (tX9_isDrawer (by assumption) (by assumption)) kX9_isDrawer dX9_guess_17 rfl lX9_213 (by first | assumption | rfl) (Nat.le_of_ble_eq_true rfl) ?_
          rintro _ _ ⟨e1, e2⟩
          replace e1 := e1.symm
          replace e2 := e2.symm
          subst e1
          subst e2
          refine z_ifb_eq 31 23 dX9_guess_20 (by decide) rfl (fun h20 => ?_) (fun h20 => ?_)
          · exact absurd (Or.inr hv') h20
          · refine z_iload 25 dX9_guess_23 rfl rfl ?_
            refine z_cSI1 28 (tX9_isRow) kX9_isRow dX9_guess_25 rfl lX9_83 (Nat.le_of_ble_eq_true rfl) ?_
            rintro _ _ ⟨e1, e2⟩
            replace e1 := e1.symm
            replace e2 := e2.symm
            subst e1
            subst e2
            refine z_ifb_ne 33 31 dX9_guess_28 (by decide) rfl (fun h28 => ?_) (fun h28 => ?_)
            · refine z_aload_n 34 dX9_guess_33 rfl rfl ?_
              refine gX9_11 37 rfl dX9_guess_34 rfl ?_
              refine z_iload_n 38 dX9_guess_37 rfl rfl ?_
              refine z_aald1 39 dX9_guess_38 rfl (by omega) ?_
              refine z_cVI0 42 (tX7_drawnFault hk hk1 hS) kX7_drawnFault dX9_guess_39 rfl lX9_216 (by first | assumption | rfl) (Nat.le_of_ble_eq_true rfl) ?_
              rintro _ _ ⟨e1, e2⟩
              replace e1 := e1.symm
              replace e2 := e2.symm
              subst e1
              subst e2
              rw [hD]
              refine zs_istore_5_6 44 rfl dX9_guess_42 rfl rfl ?_
              refine z_iload 46 dX9_guess_44 rfl rfl ?_
              refine z_if_eq 59 49 dX9_guess_46 (by decide) rfl (fun h46 => ?_) (fun h46 => ?_)
              · (try rw [nI_eq0 (by omega)] at h46)
                refine z_aload_n 60 dX9_guess_59 rfl rfl ?_
                refine gX9_46 63 rfl dX9_guess_60 rfl ?_
                refine z_aload_n 64 dX9_guess_63 rfl rfl ?_
                refine gX9_11 67 rfl dX9_guess_64 rfl ?_
                refine z_iload_n 68 dX9_guess_67 rfl rfl ?_
                refine z_aald1 69 dX9_guess_68 rfl (by omega) ?_
                refine z_cVV1 72 (tX2_take (a := 8) (g := gOf (sR S r)) rfl rfl hk hk1 hS' hpt.2.1 hqg) kX2_take dX9_guess_69 rfl lX9_219 (by first | assumption | rfl) (Nat.le_of_ble_eq_true rfl) ?_
                rintro τ1 ⟨hF1, hD1⟩
                have hX1 : RX S τ1 := hX.scr hW (hF1.mono (by unfold xS; intros; omega))
                refine z_aload_n 73 dX9_guess_72 rfl rfl ?_
                refine gX9_53 76 rfl dX9_guess_73 rfl ?_
                refine z_aload_n 77 dX9_guess_76 rfl rfl ?_
                refine gX9_26 80 rfl dX9_guess_77 rfl ?_
                refine z_iload_n 81 dX9_guess_80 rfl rfl ?_
                refine z_aald4 82 dX9_guess_81 rfl (by omega) ?_
                refine z_aload_n 83 dX9_guess_82 rfl rfl ?_
                refine gX9_46 86 rfl dX9_guess_83 rfl ?_
                refine z_aload_n 87 dX9_guess_86 rfl rfl ?_
                refine z_iload_n 88 dX9_guess_87 rfl rfl ?_
                refine z_cVA1 91 (tX9_drawerP hW hX1 hv2) kX9_drawer dX9_guess_88 rfl lX9_221 (by first | assumption | rfl) (Nat.le_of_ble_eq_true rfl) ?_
                rintro _ _ ⟨e1, e2⟩
                replace e1 := e1.symm
                replace e2 := e2.symm
                subst e1
                subst e2
                exact zf_5_6 (hfin τ1 hF1 hD1 _ (hX1.by hW hv2))
              · (try rw [nI_eq0 (by omega)] at h46)
                exact absurd rfl h46
            · exact absurd hA4' h28
  · rw [if_pos hD] at e0
    refine Ret.of [some (zr E 0), some (.int (nI p)), some (.int (nI r)), some (.int v), some (.int (nI t)), none] (by decide +kernel) (Nat.le_of_ble_eq_true rfl) rfl ?_
    refine z_aload_n 1 dX9_guess_0 rfl rfl ?_
    refine z_iload_n 2 dX9_guess_1 rfl rfl ?_
    refine z_cVI1 5 (tX9_isPl (by assumption) (by assumption)) kX9_isPlayer dX9_guess_2 rfl lX9_176 (by first | assumption | rfl) (Nat.le_of_ble_eq_true rfl) ?_
    rintro _ _ ⟨e1, e2⟩
    replace e1 := e1.symm
    replace e2 := e2.symm
    subst e1
    subst e2
    refine z_ifb_eq 31 8 dX9_guess_5 (by decide) rfl (fun h5 => ?_) (fun h5 => ?_)
    · exact absurd hA1' h5
    · refine z_iload_n 9 dX9_guess_8 rfl rfl ?_
      refine z_cSI1 12 (tX9_isRow) kX9_isRow dX9_guess_9 rfl lX9_83 (Nat.le_of_ble_eq_true rfl) ?_
      rintro _ _ ⟨e1, e2⟩
      replace e1 := e1.symm
      replace e2 := e2.symm
      subst e1
      subst e2
      refine z_ifb_eq 31 15 dX9_guess_12 (by decide) rfl (fun h12 => ?_) (fun h12 => ?_)
      · exact absurd hA2' h12
      · refine z_aload_n 16 dX9_guess_15 rfl rfl ?_
        refine z_iload_n 17 dX9_guess_16 rfl rfl ?_
        refine z_cVI1 20 (tX9_isDrawer (by assumption) (by assumption)) kX9_isDrawer dX9_guess_17 rfl lX9_213 (by first | assumption | rfl) (Nat.le_of_ble_eq_true rfl) ?_
        rintro _ _ ⟨e1, e2⟩
        replace e1 := e1.symm
        replace e2 := e2.symm
        subst e1
        subst e2
        refine z_ifb_eq 31 23 dX9_guess_20 (by decide) rfl (fun h20 => ?_) (fun h20 => ?_)
        · exact absurd hA3 h20
        · refine z_iload 25 dX9_guess_23 rfl rfl ?_
          refine z_cSI1 28 (tX9_isRow) kX9_isRow dX9_guess_25 rfl lX9_83 (Nat.le_of_ble_eq_true rfl) ?_
          rintro _ _ ⟨e1, e2⟩
          replace e1 := e1.symm
          replace e2 := e2.symm
          subst e1
          subst e2
          refine z_ifb_ne 33 31 dX9_guess_28 (by decide) rfl (fun h28 => ?_) (fun h28 => ?_)
          · refine z_aload_n 34 dX9_guess_33 rfl rfl ?_
            refine gX9_11 37 rfl dX9_guess_34 rfl ?_
            refine z_iload_n 38 dX9_guess_37 rfl rfl ?_
            refine z_aald1 39 dX9_guess_38 rfl (by omega) ?_
            refine z_cVI0 42 (tX7_drawnFault hk hk1 hS) kX7_drawnFault dX9_guess_39 rfl lX9_216 (by first | assumption | rfl) (Nat.le_of_ble_eq_true rfl) ?_
            rintro _ _ ⟨e1, e2⟩
            replace e1 := e1.symm
            replace e2 := e2.symm
            subst e1
            subst e2
            refine zs_istore_5_6 44 rfl dX9_guess_42 rfl rfl ?_
            refine z_iload 46 dX9_guess_44 rfl rfl ?_
            refine z_if_eq 59 49 dX9_guess_46 (by decide) rfl (fun h46 => ?_) (fun h46 => ?_)
            · (try rw [nI_eq0 (by omega)] at h46)
              exact absurd h46 hD
            · (try rw [nI_eq0 (by omega)] at h46)
              refine z_aload_n 50 dX9_guess_49 rfl rfl ?_
              refine gX9_39 53 rfl dX9_guess_50 rfl ?_
              refine z_iload 55 dX9_guess_53 rfl rfl ?_
              refine z_cVI1 58 (tX0_found (by omega) hpl) kX0_found dX9_guess_55 rfl lX9_87 (by first | assumption | rfl) (Nat.le_of_ble_eq_true rfl) ?_
              rintro _ _ ⟨e1, e2⟩
              replace e1 := e1.symm
              replace e2 := e2.symm
              subst e1
              subst e2
              refine z_ri dX9_guess_58 rfl ?_
              exact qxf hW e0 hpl hX Fr.rf
          · exact absurd hA4' h28
