/-! at, lay, tear, text, put, mean -/
def spAt (S : sS) (r i : Int32) : Int32 × sS := if ¬ inN r 6 then (-1, S) else if sPf (sR S r.toNatClampNeg) i = 0 then sAsk S (sGet (sR S r.toNatClampNeg) i.toNatClampNeg) (nI 1) else sFd S (sPf (sR S r.toNatClampNeg) i)
def spLay (S : sS) (r i v : Int32) : Int32 × sS := if ¬ inN r 6 then (-1, S) else if sPf (sR S r.toNatClampNeg) i = 0 then sAsk (setR S r.toNatClampNeg (sSet (sR S r.toNatClampNeg) i.toNatClampNeg v)) (sGet (sR S r.toNatClampNeg) i.toNatClampNeg) (nI 1) else sFd S (sPf (sR S r.toNatClampNeg) i)
def spTear (S : sS) (r : Int32) : Int32 × sS := if ¬ inN r 6 then (-1, S) else if sR S r.toNatClampNeg = none then sFd S 1 else (nI 1, setR S r.toNatClampNeg none)
def spText (S : sS) (r n : Int32) : Int32 × sS := if ¬ inN r 4 ∨ nI 120 < n then (-1, S) else if n < 0 then sFd S 5 else (n, setT S r.toNatClampNeg (some (n.toNatClampNeg, fun _ => nI 32)))
def spPut (S : sS) (r i v : Int32) : Int32 × sS := if ¬ inN r 4 then (-1, S) else if sPf (sT S r.toNatClampNeg) i = 0 then (sGet (sT S r.toNatClampNeg) i.toNatClampNeg + nI 1000, setT S r.toNatClampNeg (sSet (sT S r.toNatClampNeg) i.toNatClampNeg v.toInt8.toInt32)) else sFd S (sPf (sT S r.toNatClampNeg) i)
def tot (f : Nat → Int32) : Nat → Int64
  | 0 => 0
  | n + 1 => tot f n + (f n).toInt64
def spMean (S : sS) (r : Int32) : Int32 × sS := if ¬ inN r 6 then (-1, S) else if sR S r.toNatClampNeg = none then sFd S 1 else if sSz (sR S r.toNatClampNeg) = 0 then sFd S 4 else sAsk S (tot (sGet (sR S r.toNatClampNeg)) (sSz (sR S r.toNatClampNeg)) / lN (sSz (sR S r.toNatClampNeg))).toInt32 (nI 1)
theorem WF_R {S : sS} (hW : WF S) (r : Nat) (o : sRow) : WF (setR S r o) := hW
theorem WF_T {S : sS} (hW : WF S) (r : Nat) (o : sRow) : WF (setT S r o) := hW
theorem WF_A {S : sS} (hW : WF S) (A : sAn) : WF (setA S A) := hW
theorem sPf_1 {o : sRow} {i : Int32} (h : ¬ sPf o i = 0) : 1 ≤ sPf o i := by omega
set_option maxRecDepth 20000 in
theorem tX9_at {E : zE} {d : Nat} {σ : zM} {S : sS} {r i : Int32} (hW : WF S) (hX : RX S σ) : Ret E mX9_at (d + 2) [zr E 0, .int r, .int i] σ (qX σ (spAt S r i)) := by
  refine Ret.of [some (zr E 0), some (.int r), some (.int i), none] (by decide +kernel) (Nat.le_of_ble_eq_true rfl) rfl ?_
  refine z_iload_n 1 dX9_at_0 rfl rfl ?_
  refine z_cSI1 4 (tX9_isRow) kX9_isRow dX9_at_1 rfl lX9_83 (Nat.le_of_ble_eq_true rfl) ?_
  rintro _ _ ⟨e1, e2⟩
  replace e1 := e1.symm
  replace e2 := e2.symm
  subst e1
  subst e2
  refine z_ifb_ne 9 7 dX9_at_4 (by decide) rfl (fun h4 => ?_) (fun h4 => ?_)
  · obtain ⟨r, hr, rfl⟩ := inN_of h4
    have hk := kd_r hr
    have hk1 := kd_r1 hr
    have hS : Sh σ (24 + 2 * r) 40 (sR S r) := hX.1 r hr
    have hc : r < 2 ^ 31 := by omega
    have hpl := sPf_lt (sR S r) i
    refine z_aload_n 10 dX9_at_9 rfl rfl ?_
    refine gX9_11 13 rfl dX9_at_10 rfl ?_
    refine z_iload_n 14 dX9_at_13 rfl rfl ?_
    refine z_aald1 15 dX9_at_14 rfl (by omega) ?_
    refine z_iload_n 16 dX9_at_15 rfl rfl ?_
    refine z_cVI1 19 (tX7_placeFault (by first | assumption | rfl) (by first | assumption | rfl) (by first | assumption | rfl)) kX7_placeFault dX9_at_16 rfl lX9_95 (by first | assumption | rfl) (Nat.le_of_ble_eq_true rfl) ?_
    rintro _ _ ⟨e1, e2⟩
    replace e1 := e1.symm
    replace e2 := e2.symm
    subst e1
    subst e2
    refine zs_istore_n_3_4 20 rfl dX9_at_19 rfl rfl ?_
    refine z_iload_n 21 dX9_at_20 rfl rfl ?_
    refine z_if_eq 35 24 dX9_at_21 (by decide) rfl (fun h21 => ?_) (fun h21 => ?_)
    · (try rw [nI_eq0 (by omega)] at h21)
      refine z_aload_n 36 dX9_at_35 rfl rfl ?_
      refine gX9_39 39 rfl dX9_at_36 rfl ?_
      refine z_aload_n 40 dX9_at_39 rfl rfl ?_
      refine gX9_11 43 rfl dX9_at_40 rfl ?_
      refine z_iload_n 44 dX9_at_43 rfl rfl ?_
      refine z_aald1 45 dX9_at_44 rfl (by omega) ?_
      refine z_iload_n 46 dX9_at_45 rfl rfl ?_
      refine z_cVI1 49 (tX7_getS hk hk1 hS h21) kX7_get dX9_at_46 rfl lX9_98 (by first | assumption | rfl) (Nat.le_of_ble_eq_true rfl) ?_
      rintro _ _ ⟨e1, e2⟩
      replace e1 := e1.symm
      replace e2 := e2.symm
      subst e1
      subst e2
      refine z_cVI1 52 (tX0_ask) kX0_ask dX9_at_49 rfl lX9_104 (by first | assumption | rfl) (Nat.le_of_ble_eq_true rfl) ?_
      rintro _ _ ⟨e1, e2⟩
      replace e1 := e1.symm
      replace e2 := e2.symm
      subst e1
      subst e2
      refine z_ri dX9_at_52 rfl ?_
      first | exact qxa hW ((if_neg (fun q => q h4)).trans (by rw [nI_clamp hc]; exact if_pos h21)) hX Fr.rf | exact qxf hW ((if_neg (fun q => q h4)).trans (by rw [nI_clamp hc]; exact if_neg h21)) hpl hX Fr.rf
    · (try rw [nI_eq0 (by omega)] at h21)
      refine z_aload_n 25 dX9_at_24 rfl rfl ?_
      refine gX9_39 28 rfl dX9_at_25 rfl ?_
      refine z_iload_n 29 dX9_at_28 rfl rfl ?_
      refine z_cVI1 32 (tX0_found (sPf_1 h21) hpl) kX0_found dX9_at_29 rfl lX9_87 (by first | assumption | rfl) (Nat.le_of_ble_eq_true rfl) ?_
      rintro _ _ ⟨e1, e2⟩
      replace e1 := e1.symm
      replace e2 := e2.symm
      subst e1
      subst e2
      refine z_goto 52 dX9_at_32 rfl ?_
      refine z_ri dX9_at_52 rfl ?_
      first | exact qxa hW ((if_neg (fun q => q h4)).trans (by rw [nI_clamp hc]; exact if_pos h21)) hX Fr.rf | exact qxf hW ((if_neg (fun q => q h4)).trans (by rw [nI_clamp hc]; exact if_neg h21)) hpl hX Fr.rf
  · refine z_iconst 8 (v := (-1)) dX9_at_7 rfl rfl ?_
    refine z_ri dX9_at_8 rfl ?_
    exact qx0 (if_pos h4) hX Fr.rf
set_option maxRecDepth 20000 in
theorem tX9_lay {E : zE} {d : Nat} {σ : zM} {S : sS} {r i v : Int32} (hW : WF S) (hX : RX S σ) : Ret E mX9_lay (d + 2) [zr E 0, .int r, .int i, .int v] σ (qX σ (spLay S r i v)) := by
  refine Ret.of [some (zr E 0), some (.int r), some (.int i), some (.int v), none, none] (by decide +kernel) (Nat.le_of_ble_eq_true rfl) rfl ?_
  refine z_iload_n 1 dX9_lay_0 rfl rfl ?_
  refine z_cSI1 4 (tX9_isRow) kX9_isRow dX9_lay_1 rfl lX9_83 (Nat.le_of_ble_eq_true rfl) ?_
  rintro _ _ ⟨e1, e2⟩
  replace e1 := e1.symm
  replace e2 := e2.symm
  subst e1
  subst e2
  refine z_ifb_ne 9 7 dX9_lay_4 (by decide) rfl (fun h4 => ?_) (fun h4 => ?_)
  · obtain ⟨r, hr, rfl⟩ := inN_of h4
    have hk := kd_r hr
    have hk1 := kd_r1 hr
    have hS : Sh σ (24 + 2 * r) 40 (sR S r) := hX.1 r hr
    have hc : r < 2 ^ 31 := by omega
    have hpl := sPf_lt (sR S r) i
    refine z_aload_n 10 dX9_lay_9 rfl rfl ?_
    refine gX9_11 13 rfl dX9_lay_10 rfl ?_
    refine z_iload_n 14 dX9_lay_13 rfl rfl ?_
    refine z_aald1 15 dX9_lay_14 rfl (by omega) ?_
    refine z_iload_n 16 dX9_lay_15 rfl rfl ?_
    refine z_cVI1 19 (tX7_placeFault (by first | assumption | rfl) (by first | assumption | rfl) (by first | assumption | rfl)) kX7_placeFault dX9_lay_16 rfl lX9_95 (by first | assumption | rfl) (Nat.le_of_ble_eq_true rfl) ?_
    rintro _ _ ⟨e1, e2⟩
    replace e1 := e1.symm
    replace e2 := e2.symm
    subst e1
    subst e2
    refine zs_istore_4_6 21 rfl dX9_lay_19 rfl rfl ?_
    refine z_iload 23 dX9_lay_21 rfl rfl ?_
    refine z_if_eq 36 26 dX9_lay_23 (by decide) rfl (fun h23 => ?_) (fun h23 => ?_)
    · (try rw [nI_eq0 (by omega)] at h23)
      refine z_aload_n 37 dX9_lay_36 rfl rfl ?_
      refine gX9_11 40 rfl dX9_lay_37 rfl ?_
      refine z_iload_n 41 dX9_lay_40 rfl rfl ?_
      refine z_aald1 42 dX9_lay_41 rfl (by omega) ?_
      refine z_iload_n 43 dX9_lay_42 rfl rfl ?_
      refine z_cVI1 46 (tX7_getS hk hk1 hS h23) kX7_get dX9_lay_43 rfl lX9_98 (by first | assumption | rfl) (Nat.le_of_ble_eq_true rfl) ?_
      rintro _ _ ⟨e1, e2⟩
      replace e1 := e1.symm
      replace e2 := e2.symm
      subst e1
      subst e2
      refine zs_istore_5_6 48 rfl dX9_lay_46 rfl rfl ?_
      refine z_aload_n 49 dX9_lay_48 rfl rfl ?_
      refine gX9_11 52 rfl dX9_lay_49 rfl ?_
      refine z_iload_n 53 dX9_lay_52 rfl rfl ?_
      refine z_aald1 54 dX9_lay_53 rfl (by omega) ?_
      refine z_iload_n 55 dX9_lay_54 rfl rfl ?_
      refine z_iload_n 56 dX9_lay_55 rfl rfl ?_
      refine z_cVV2 59 (tX7_setS hk hk1 hS h23) kX7_set dX9_lay_56 rfl lX9_101 (by first | assumption | rfl) (Nat.le_of_ble_eq_true rfl) ?_
      rintro τ1 ⟨hF1, hS1⟩
      refine z_aload_n 60 dX9_lay_59 rfl rfl ?_
      refine gX9_39 63 rfl dX9_lay_60 rfl ?_
      refine z_iload 65 dX9_lay_63 rfl rfl ?_
      refine z_cVI1 68 (tX0_ask) kX0_ask dX9_lay_65 rfl lX9_104 (by first | assumption | rfl) (Nat.le_of_ble_eq_true rfl) ?_
      rintro _ _ ⟨e1, e2⟩
      replace e1 := e1.symm
      replace e2 := e2.symm
      subst e1
      subst e2
      refine z_ri dX9_lay_68 rfl ?_
      exact qxa (WF_R hW r _) ((if_neg (fun q => q h4)).trans (by rw [nI_clamp hc]; exact if_pos h23)) (hX.R hW (hF1.mono (by intros; omega)) hr hS1) (hF1.mono (by intros; omega))
    · (try rw [nI_eq0 (by omega)] at h23)
      refine z_aload_n 27 dX9_lay_26 rfl rfl ?_
      refine gX9_39 30 rfl dX9_lay_27 rfl ?_
      refine z_iload 32 dX9_lay_30 rfl rfl ?_
      refine z_cVI1 35 (tX0_found (sPf_1 h23) hpl) kX0_found dX9_lay_32 rfl lX9_87 (by first | assumption | rfl) (Nat.le_of_ble_eq_true rfl) ?_
      rintro _ _ ⟨e1, e2⟩
      replace e1 := e1.symm
      replace e2 := e2.symm
      subst e1
      subst e2
      refine z_ri dX9_lay_35 rfl ?_
      exact qxf hW ((if_neg (fun q => q h4)).trans (by rw [nI_clamp hc]; exact if_neg h23)) hpl hX Fr.rf
  · refine z_iconst 8 (v := (-1)) dX9_lay_7 rfl rfl ?_
    refine z_ri dX9_lay_8 rfl ?_
    exact qx0 (if_pos h4) hX Fr.rf
set_option maxRecDepth 20000 in
theorem tX9_tear {E : zE} {d : Nat} {σ : zM} {S : sS} {r : Int32} (hW : WF S) (hX : RX S σ) : Ret E mX9_tear (d + 1) [zr E 0, .int r] σ (qX σ (spTear S r)) := by
  refine Ret.of [some (zr E 0), some (.int r)] (by decide +kernel) (Nat.le_of_ble_eq_true rfl) rfl ?_
  refine z_iload_n 1 dX9_tear_0 rfl rfl ?_
  refine z_cSI1 4 (tX9_isRow) kX9_isRow dX9_tear_1 rfl lX9_83 (Nat.le_of_ble_eq_true rfl) ?_
  rintro _ _ ⟨e1, e2⟩
  replace e1 := e1.symm
  replace e2 := e2.symm
  subst e1
  subst e2
  refine z_ifb_ne 9 7 dX9_tear_4 (by decide) rfl (fun h4 => ?_) (fun h4 => ?_)
  · obtain ⟨r, hr, rfl⟩ := inN_of h4
    have hk := kd_r hr
    have hk1 := kd_r1 hr
    have hS : Sh σ (24 + 2 * r) 40 (sR S r) := hX.1 r hr
    have hc : r < 2 ^ 31 := by omega
    refine z_aload_n 10 dX9_tear_9 rfl rfl ?_
    refine gX9_11 13 rfl dX9_tear_10 rfl ?_
    refine z_iload_n 14 dX9_tear_13 rfl rfl ?_
    refine z_aald1 15 dX9_tear_14 rfl (by omega) ?_
    refine z_cVI0 18 (tX7_isM (by first | assumption | rfl) (by first | assumption | rfl) (by first | assumption | rfl)) kX7_isMissing dX9_tear_15 rfl lX9_107 (by first | assumption | rfl) (Nat.le_of_ble_eq_true rfl) ?_
    rintro _ _ ⟨e1, e2⟩
    replace e1 := e1.symm
    replace e2 := e2.symm
    subst e1
    subst e2
    refine z_ifb_eq 30 21 dX9_tear_18 (by decide) rfl (fun h18 => ?_) (fun h18 => ?_)
    · refine z_aload_n 31 dX9_tear_30 rfl rfl ?_
      refine gX9_11 34 rfl dX9_tear_31 rfl ?_
      refine z_iload_n 35 dX9_tear_34 rfl rfl ?_
      refine z_aald1 36 dX9_tear_35 rfl (by omega) ?_
      refine z_cVV0 39 (tX7_remove (by first | assumption | rfl)) kX7_remove dX9_tear_36 rfl lX9_111 (by first | assumption | rfl) (Nat.le_of_ble_eq_true rfl) ?_
      rintro _ e2
      replace e2 := e2.symm
      subst e2
      refine z_iconst 40 (v := nI 1) dX9_tear_39 rfl rfl ?_
      refine z_ri dX9_tear_40 rfl ?_
      exact qx0 ((if_neg (fun q => q h4)).trans (by rw [nI_clamp hc]; exact if_neg h18)) (hX.R hW (o := none) (Fr.rf.si _ (Or.inl ⟨rfl, rfl⟩)) hr (gi_s1 _ _ _ _)) (Fr.rf.si _ (by show 24 + 2 * r < 102; omega))
    · refine z_aload_n 22 dX9_tear_21 rfl rfl ?_
      refine gX9_39 25 rfl dX9_tear_22 rfl ?_
      refine z_iconst 26 (v := nI 1) dX9_tear_25 rfl rfl ?_
      refine z_cVI1 29 (tX0_found (by omega) (by omega)) kX0_found dX9_tear_26 rfl lX9_87 (by first | assumption | rfl) (Nat.le_of_ble_eq_true rfl) ?_
      rintro _ _ ⟨e1, e2⟩
      replace e1 := e1.symm
      replace e2 := e2.symm
      subst e1
      subst e2
      refine z_ri dX9_tear_29 rfl ?_
      exact qxf hW ((if_neg (fun q => q h4)).trans (by rw [nI_clamp hc]; exact if_pos h18)) (by decide) hX Fr.rf
  · refine z_iconst 8 (v := (-1)) dX9_tear_7 rfl rfl ?_
    refine z_ri dX9_tear_8 rfl ?_
    exact qx0 (if_pos h4) hX Fr.rf
set_option maxRecDepth 20000 in
theorem tX9_text {E : zE} {d : Nat} {σ : zM} {S : sS} {r n : Int32} (hW : WF S) (hX : RX S σ) : Ret E mX9_text (d + 1) [zr E 0, .int r, .int n] σ (qX σ (spText S r n)) := by
  refine Ret.of [some (zr E 0), some (.int r), some (.int n)] (by decide +kernel) (Nat.le_of_ble_eq_true rfl) rfl ?_
  refine z_iload_n 1 dX9_text_0 rfl rfl ?_
  refine z_cSI1 4 (tX9_isText) kX9_isText dX9_text_1 rfl lX9_136 (Nat.le_of_ble_eq_true rfl) ?_
  rintro _ _ ⟨e1, e2⟩
  replace e1 := e1.symm
  replace e2 := e2.symm
  subst e1
  subst e2
  refine z_ifb_eq 13 7 dX9_text_4 (by decide) rfl (fun h4 => ?_) (fun h4 => ?_)
  · refine z_iconst 14 (v := (-1)) dX9_text_13 rfl rfl ?_
    refine z_ri dX9_text_14 rfl ?_
    first | exact qx0 (if_pos (Or.inl h4)) hX Fr.rf | exact qx0 (if_pos (Or.inr (Int32.not_le.mp h10))) hX Fr.rf
  · obtain ⟨r, hr, rfl⟩ := inN_of h4
    refine z_iload_n 8 dX9_text_7 rfl rfl ?_
    refine z_bipush 10 (v := nI 120) dX9_text_8 rfl rfl ?_
    refine z_icmp_le 15 13 dX9_text_10 (by decide) rfl (fun h10 => ?_) (fun h10 => ?_)
    · (try rw [nI_leI (by omega) (by omega)] at h10)
      have hA : ¬ (¬ inN (nI r) 4 ∨ nI 120 < n) := fun z => z.elim (fun q => q h4) (fun q => Int32.not_lt.mpr h10 q)
      refine z_iload_n 16 dX9_text_15 rfl rfl ?_
      refine z_if_ge 28 19 dX9_text_16 (by decide) rfl (fun h16 => ?_) (fun h16 => ?_)
      · (try rw [nI_ge0 (by omega)] at h16)
        obtain ⟨n, hn, rfl⟩ := nI_of (Int32.not_lt.mpr h16)
        rw [nI_leI hn (by decide)] at h10
        have hk := kd_t hr
        have hk1 := kd_t1 hr
        refine z_aload_n 29 dX9_text_28 rfl rfl ?_
        refine gX9_15 32 rfl dX9_text_29 rfl ?_
        refine z_iload_n 33 dX9_text_32 rfl rfl ?_
        refine z_aald2 34 dX9_text_33 rfl (by omega) ?_
        refine z_iload_n 35 dX9_text_34 rfl rfl ?_
        refine z_bipush 37 (v := nI 32) dX9_text_35 rfl rfl ?_
        refine z_cVV2 40 (tX7_renew (by first | assumption | rfl) (by first | assumption | rfl) (by omega)) kX7_renew dX9_text_37 rfl lX9_91 (by first | assumption | rfl) (Nat.le_of_ble_eq_true rfl) ?_
        rintro τ1 ⟨hF1, hS1⟩
        refine z_iload_n 41 dX9_text_40 rfl rfl ?_
        refine z_ri dX9_text_41 rfl ?_
        refine qx0 (S := setT S r (some (n, fun _ => nI 32))) ?_ (hX.T hW hF1 hr hS1) (hF1.mono (by intros; omega))
        unfold spText
        rw [if_neg hA, if_neg (nI_pos hn), nI_clamp hn, nI_clamp (by omega)]
      · (try rw [nI_ge0 (by omega)] at h16)
        refine z_aload_n 20 dX9_text_19 rfl rfl ?_
        refine gX9_39 23 rfl dX9_text_20 rfl ?_
        refine z_iconst 24 (v := nI 5) dX9_text_23 rfl rfl ?_
        refine z_cVI1 27 (tX0_found (by omega) (by omega)) kX0_found dX9_text_24 rfl lX9_87 (by first | assumption | rfl) (Nat.le_of_ble_eq_true rfl) ?_
        rintro _ _ ⟨e1, e2⟩
        replace e1 := e1.symm
        replace e2 := e2.symm
        subst e1
        subst e2
        refine z_ri dX9_text_27 rfl ?_
        exact qxf hW ((if_neg hA).trans (if_pos (Int32.not_le.mp h16))) (by decide) hX Fr.rf
    · (try rw [nI_leI (by omega) (by omega)] at h10)
      refine z_iconst 14 (v := (-1)) dX9_text_13 rfl rfl ?_
      refine z_ri dX9_text_14 rfl ?_
      first | exact qx0 (if_pos (Or.inl h4)) hX Fr.rf | exact qx0 (if_pos (Or.inr (Int32.not_le.mp h10))) hX Fr.rf
set_option maxRecDepth 20000 in
theorem tX9_put {E : zE} {d : Nat} {σ : zM} {S : sS} {r i v : Int32} (hW : WF S) (hX : RX S σ) : Ret E mX9_put (d + 2) [zr E 0, .int r, .int i, .int v] σ (qX σ (spPut S r i v)) := by
  refine Ret.of [some (zr E 0), some (.int r), some (.int i), some (.int v), none, none] (by decide +kernel) (Nat.le_of_ble_eq_true rfl) rfl ?_
  refine z_iload_n 1 dX9_put_0 rfl rfl ?_
  refine z_cSI1 4 (tX9_isText) kX9_isText dX9_put_1 rfl lX9_136 (Nat.le_of_ble_eq_true rfl) ?_
  rintro _ _ ⟨e1, e2⟩
  replace e1 := e1.symm
  replace e2 := e2.symm
  subst e1
  subst e2
  refine z_ifb_ne 9 7 dX9_put_4 (by decide) rfl (fun h4 => ?_) (fun h4 => ?_)
  · obtain ⟨r, hr, rfl⟩ := inN_of h4
    have hk := kd_t hr
    have hk1 := kd_t1 hr
    have hS : Sh σ (36 + 2 * r) 120 (sT S r) := hX.2.1 r hr
    have hc : r < 2 ^ 31 := by omega
    have hpl := sPf_lt (sT S r) i
    refine z_aload_n 10 dX9_put_9 rfl rfl ?_
    refine gX9_15 13 rfl dX9_put_10 rfl ?_
    refine z_iload_n 14 dX9_put_13 rfl rfl ?_
    refine z_aald2 15 dX9_put_14 rfl (by omega) ?_
    refine z_iload_n 16 dX9_put_15 rfl rfl ?_
    refine z_cVI1 19 (tX7_placeFault (by first | assumption | rfl) (by first | assumption | rfl) (by first | assumption | rfl)) kX7_placeFault dX9_put_16 rfl lX9_95 (by first | assumption | rfl) (Nat.le_of_ble_eq_true rfl) ?_
    rintro _ _ ⟨e1, e2⟩
    replace e1 := e1.symm
    replace e2 := e2.symm
    subst e1
    subst e2
    refine zs_istore_4_6 21 rfl dX9_put_19 rfl rfl ?_
    refine z_iload 23 dX9_put_21 rfl rfl ?_
    refine z_if_eq 36 26 dX9_put_23 (by decide) rfl (fun h23 => ?_) (fun h23 => ?_)
    · (try rw [nI_eq0 (by omega)] at h23)
      refine z_aload_n 37 dX9_put_36 rfl rfl ?_
      refine gX9_15 40 rfl dX9_put_37 rfl ?_
      refine z_iload_n 41 dX9_put_40 rfl rfl ?_
      refine z_aald2 42 dX9_put_41 rfl (by omega) ?_
      refine z_iload_n 43 dX9_put_42 rfl rfl ?_
      refine z_cVI1 46 (tX7_getS hk hk1 hS h23) kX7_get dX9_put_43 rfl lX9_98 (by first | assumption | rfl) (Nat.le_of_ble_eq_true rfl) ?_
      rintro _ _ ⟨e1, e2⟩
      replace e1 := e1.symm
      replace e2 := e2.symm
      subst e1
      subst e2
      refine zs_istore_5_6 48 rfl dX9_put_46 rfl rfl ?_
      refine z_aload_n 49 dX9_put_48 rfl rfl ?_
      refine gX9_15 52 rfl dX9_put_49 rfl ?_
      refine z_iload_n 53 dX9_put_52 rfl rfl ?_
      refine z_aald2 54 dX9_put_53 rfl (by omega) ?_
      refine z_iload_n 55 dX9_put_54 rfl rfl ?_
      refine z_iload_n 56 dX9_put_55 rfl rfl ?_
      refine z_i2b 57 dX9_put_56 rfl ?_
      refine z_cVV2 60 (tX7_setS hk hk1 hS h23) kX7_set dX9_put_57 rfl lX9_101 (by first | assumption | rfl) (Nat.le_of_ble_eq_true rfl) ?_
      rintro τ1 ⟨hF1, hS1⟩
      refine z_iload 62 dX9_put_60 rfl rfl ?_
      refine z_sipush 65 (v := nI 1000) dX9_put_62 rfl rfl ?_
      refine z_iadd 66 dX9_put_65 rfl ?_
      refine z_ri dX9_put_66 rfl ?_
      exact qx0 ((if_neg (fun q => q h4)).trans (by rw [nI_clamp hc]; exact if_pos h23)) (hX.T hW (hF1.mono (by intros; omega)) hr hS1) (hF1.mono (by intros; omega))
    · (try rw [nI_eq0 (by omega)] at h23)
      refine z_aload_n 27 dX9_put_26 rfl rfl ?_
      refine gX9_39 30 rfl dX9_put_27 rfl ?_
      refine z_iload 32 dX9_put_30 rfl rfl ?_
      refine z_cVI1 35 (tX0_found (sPf_1 h23) hpl) kX0_found dX9_put_32 rfl lX9_87 (by first | assumption | rfl) (Nat.le_of_ble_eq_true rfl) ?_
      rintro _ _ ⟨e1, e2⟩
      replace e1 := e1.symm
      replace e2 := e2.symm
      subst e1
      subst e2
      refine z_ri dX9_put_35 rfl ?_
      exact qxf hW ((if_neg (fun q => q h4)).trans (by rw [nI_clamp hc]; exact if_neg h23)) hpl hX Fr.rf
  · refine z_iconst 8 (v := (-1)) dX9_put_7 rfl rfl ?_
    refine z_ri dX9_put_8 rfl ?_
    exact qx0 (if_pos h4) hX Fr.rf
set_option maxRecDepth 20000 in
theorem tX7_total {E : zE} {d : Nat} {σ : zM} {a cap : Nat} {q : Nat × (Nat → Int32)} (hk : (kd a).1 = 7) (hk1 : kd (a + 1) = (11, cap)) (hS : Sh σ a cap (some q)) : Ret E mX7_total d [zr E a] σ (qJ fun x τ => x = tot q.2 q.1 ∧ τ = σ) := by
  have hc := cap_lt hk1
  have hq := hS.1
  have hs : gi σ a 1 = nI q.1 := hS.2.1
  refine Ret.of [some (zr E a), none, none, none] (by decide +kernel) (Nat.le_of_ble_eq_true rfl) rfl ?_
  have loop : ∀ i, i ≤ q.1 → At E mX7_total d (qJ fun x τ => x = tot q.2 q.1 ∧ τ = σ) 4 [some (zr E a), some (.long (tot q.2 i)), none, some (.int (nI i))] [] σ := by
    refine z_up (fun i hi ih => ?_)
    refine z_iload_n 5 dX7_total_4 rfl rfl ?_
    refine z_aload_n 6 dX7_total_5 rfl rfl ?_
    refine gX7_9 9 rfl dX7_total_6 rfl (by first | assumption | rfl) ?_
    rw [hs]
    refine z_icmp_ge 28 12 dX7_total_9 (by decide) rfl (fun h9 => ?_) (fun h9 => ?_)
    · (try rw [nI_leI (by omega) (by omega)] at h9)
      refine z_lload_n 29 dX7_total_28 rfl rfl ?_
      refine z_rl dX7_total_29 rfl ?_
      refine ⟨?_, rfl⟩
      rw [show i = q.1 by omega]
    · (try rw [nI_leI (by omega) (by omega)] at h9)
      refine z_lload_n 13 dX7_total_12 rfl rfl ?_
      refine z_aload_n 14 dX7_total_13 rfl rfl ?_
      refine gX7_21 17 rfl dX7_total_14 rfl (by first | assumption | rfl) ?_
      refine z_iload_n 18 dX7_total_17 rfl rfl ?_
      refine z_ialdn 19 dX7_total_18 rfl (by first | assumption | rfl) (by omega) ?_
      rw [hS.2.2 i (by omega)]
      refine z_i2l 20 dX7_total_19 rfl ?_
      refine z_ladd 21 dX7_total_20 rfl ?_
      refine zs_lstore_n_1_4 22 rfl dX7_total_21 rfl rfl ?_
      refine zs_iinc_3_4_1 25 rfl dX7_total_22 rfl rfl ?_
      rw [nI_add]
      refine z_goto 4 dX7_total_25 rfl ?_
      exact ih (i + 1) (by omega) (by omega)
  refine z_lconst 1 (v := 0) dX7_total_0 rfl rfl ?_
  refine zs_lstore_n_1_4 2 rfl dX7_total_1 rfl rfl ?_
  refine z_iconst 3 (v := nI 0) dX7_total_2 rfl rfl ?_
  refine zs_istore_n_3_4 4 rfl dX7_total_3 rfl rfl ?_
  exact loop 0 (Nat.zero_le _)
set_option maxRecDepth 20000 in
theorem tX9_mean {E : zE} {d : Nat} {σ : zM} {S : sS} {r : Int32} (hW : WF S) (hX : RX S σ) : Ret E mX9_mean (d + 1) [zr E 0, .int r] σ (qX σ (spMean S r)) := by
  refine Ret.of [some (zr E 0), some (.int r), none] (by decide +kernel) (Nat.le_of_ble_eq_true rfl) rfl ?_
  refine z_iload_n 1 dX9_mean_0 rfl rfl ?_
  refine z_cSI1 4 (tX9_isRow) kX9_isRow dX9_mean_1 rfl lX9_83 (Nat.le_of_ble_eq_true rfl) ?_
  rintro _ _ ⟨e1, e2⟩
  replace e1 := e1.symm
  replace e2 := e2.symm
  subst e1
  subst e2
  refine z_ifb_ne 9 7 dX9_mean_4 (by decide) rfl (fun h4 => ?_) (fun h4 => ?_)
  · obtain ⟨r, hr, rfl⟩ := inN_of h4
    have hk := kd_r hr
    have hk1 := kd_r1 hr
    have hS : Sh σ (24 + 2 * r) 40 (sR S r) := hX.1 r hr
    have hc : r < 2 ^ 31 := by omega
    refine z_aload_n 10 dX9_mean_9 rfl rfl ?_
    refine gX9_11 13 rfl dX9_mean_10 rfl ?_
    refine z_iload_n 14 dX9_mean_13 rfl rfl ?_
    refine z_aald1 15 dX9_mean_14 rfl (by omega) ?_
    refine z_cVI0 18 (tX7_isM (by first | assumption | rfl) (by first | assumption | rfl) (by first | assumption | rfl)) kX7_isMissing dX9_mean_15 rfl lX9_107 (by first | assumption | rfl) (Nat.le_of_ble_eq_true rfl) ?_
    rintro _ _ ⟨e1, e2⟩
    replace e1 := e1.symm
    replace e2 := e2.symm
    subst e1
    subst e2
    refine z_ifb_eq 30 21 dX9_mean_18 (by decide) rfl (fun h18 => ?_) (fun h18 => ?_)
    · obtain ⟨q, hq⟩ := Option.ne_none_iff_exists'.mp h18
      rw [hq] at hS
      have hs : gi σ (24 + 2 * r) 1 = nI q.1 := hS.2.1
      have h40 := hS.1
      have hz : sSz (sR S r) = q.1 := by rw [hq]; rfl
      refine z_aload_n 31 dX9_mean_30 rfl rfl ?_
      refine gX9_11 34 rfl dX9_mean_31 rfl ?_
      refine z_iload_n 35 dX9_mean_34 rfl rfl ?_
      refine z_aald1 36 dX9_mean_35 rfl (by omega) ?_
      refine gX9_128 39 rfl dX9_mean_36 rfl (by first | assumption | rfl) ?_
      rw [hs]
      refine zs_istore_n_2_3 40 rfl dX9_mean_39 rfl rfl ?_
      refine z_iload_n 41 dX9_mean_40 rfl rfl ?_
      refine z_if_ne 53 44 dX9_mean_41 (by decide) rfl (fun h41 => ?_) (fun h41 => ?_)
      · (try rw [nI_eq0 (by omega)] at h41)
        have h41' : ¬ sSz (sR S r) = 0 := fun z => h41 (hz.symm.trans z)
        refine z_aload_n 54 dX9_mean_53 rfl rfl ?_
        refine gX9_39 57 rfl dX9_mean_54 rfl ?_
        refine z_aload_n 58 dX9_mean_57 rfl rfl ?_
        refine gX9_11 61 rfl dX9_mean_58 rfl ?_
        refine z_iload_n 62 dX9_mean_61 rfl rfl ?_
        refine z_aald1 63 dX9_mean_62 rfl (by omega) ?_
        refine z_cVJ0 66 (tX7_total hk hk1 hS) kX7_total dX9_mean_63 rfl lX9_132 (by first | assumption | rfl) (Nat.le_of_ble_eq_true rfl) ?_
        rintro _ _ ⟨e1, e2⟩
        replace e1 := e1.symm
        replace e2 := e2.symm
        subst e1
        subst e2
        refine z_iload_n 67 dX9_mean_66 rfl rfl ?_
        refine z_i2l 68 dX9_mean_67 rfl ?_
        rw [nI_l (by omega)]
        refine z_ldiv 69 dX9_mean_68 rfl (fun z => h41 ((lN_eq (by omega) (by decide)).mp z)) ?_
        refine z_l2i 70 dX9_mean_69 rfl ?_
        refine z_cVI1 73 (tX0_ask) kX0_ask dX9_mean_70 rfl lX9_104 (by first | assumption | rfl) (Nat.le_of_ble_eq_true rfl) ?_
        rintro _ _ ⟨e1, e2⟩
        replace e1 := e1.symm
        replace e2 := e2.symm
        subst e1
        subst e2
        refine z_ri dX9_mean_73 rfl ?_
        refine qxa hW ((if_neg (fun q => q h4)).trans ?_) hX Fr.rf
        rw [nI_clamp hc, if_neg h18, if_neg h41', hz, hq]
        rfl
      · (try rw [nI_eq0 (by omega)] at h41)
        have h41' : sSz (sR S r) = 0 := hz.trans h41
        refine z_aload_n 45 dX9_mean_44 rfl rfl ?_
        refine gX9_39 48 rfl dX9_mean_45 rfl ?_
        refine z_iconst 49 (v := nI 4) dX9_mean_48 rfl rfl ?_
        refine z_cVI1 52 (tX0_found (by omega) (by omega)) kX0_found dX9_mean_49 rfl lX9_87 (by first | assumption | rfl) (Nat.le_of_ble_eq_true rfl) ?_
        rintro _ _ ⟨e1, e2⟩
        replace e1 := e1.symm
        replace e2 := e2.symm
        subst e1
        subst e2
        refine z_ri dX9_mean_52 rfl ?_
        exact qxf hW ((if_neg (fun q => q h4)).trans (by rw [nI_clamp hc]; exact (if_neg h18).trans (if_pos h41'))) (by decide) hX Fr.rf
    · refine z_aload_n 22 dX9_mean_21 rfl rfl ?_
      refine gX9_39 25 rfl dX9_mean_22 rfl ?_
      refine z_iconst 26 (v := nI 1) dX9_mean_25 rfl rfl ?_
      refine z_cVI1 29 (tX0_found (by omega) (by omega)) kX0_found dX9_mean_26 rfl lX9_87 (by first | assumption | rfl) (Nat.le_of_ble_eq_true rfl) ?_
      rintro _ _ ⟨e1, e2⟩
      replace e1 := e1.symm
      replace e2 := e2.symm
      subst e1
      subst e2
      refine z_ri dX9_mean_29 rfl ?_
      exact qxf hW ((if_neg (fun q => q h4)).trans (by rw [nI_clamp hc]; exact if_pos h18)) (by decide) hX Fr.rf
  · refine z_iconst 8 (v := (-1)) dX9_mean_7 rfl rfl ?_
    refine z_ri dX9_mean_8 rfl ?_
    exact qx0 (if_pos h4) hX Fr.rf
