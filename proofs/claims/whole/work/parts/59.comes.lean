/-! comes, most -/
def odR (S : sS) (o : sRow) (s w v : Nat) : Nat := odN S (gOf o) (sSz o) s (eW w) (sSz o / 2) v
def whR (o : sRow) : Nat := 24 ^ (sSz o / 2)
theorem adj_of {S : sS} {σ : zM} {n : Nat} {t : Nat → Nat} (hn : 0 < n) (h : ∀ i, i < n → StK S σ (t i) (t ((i + 1) % n))) (s : Nat) : Adj S σ n s t := fun k _ => by
  have h1 := h ((s + 2 * k) % n) (Nat.mod_lt _ hn)
  rw [Nat.mod_add_mod] at h1
  exact h1
theorem wh_pos (k : Nat) : 0 < 24 ^ k := Nat.pow_pos (by decide)
theorem fSt_xS : ∀ a j, fSt a j → xS a j := by unfold xS; intros; omega
theorem fOd_xS : ∀ a j, fOd a j → xS a j := by unfold xS; intros; omega
theorem xS_all : ∀ a j, xS a j → xAll a j := by unfold xS; intros; omega
theorem mS_all : ∀ a j, mS a j → mAll a j := by unfold mS; intros; omega
theorem fT_mS : ∀ a j, fT a j → mS a j := by unfold mS; intros; omega
def spComes (S : sS) (r w v : Int32) : Int32 × sS := if ¬ (inN r 6 ∧ inN w (sBw S 0) ∧ inN v (sBw S 0)) then (-1, S) else if ¬ sTf S (sR S (zx r)) = 0 then sFd S (sTf S (sR S (zx r))) else sTell S (odR S (sR S (zx r)) 0 (zx w) (zx v)) (whR (sR S (zx r))) (nI 1)
set_option maxRecDepth 20000 in
theorem tX9_comes {E : zE} {d : Nat} {σ : zM} {S : sS} {r w v : Int32} (hW : WF S) (hX : RX S σ) : Ret E mX9_comes (d + 5) [zr E 0, .int r, .int w, .int v] σ (qX σ (spComes S r w v)) := by
  have h8 := hW.2.1.1
  have hb8 := bw_le hW (show 0 < 2 by omega)
  by_cases hA : ¬ (inN r 6 ∧ inN w (sBw S 0) ∧ inN v (sBw S 0))
  · refine Ret.of [some (zr E 0), some (.int r), some (.int w), some (.int v), none] (by decide +kernel) (Nat.le_of_ble_eq_true rfl) rfl ?_
    refine z_iload_n 1 dX9_comes_0 rfl rfl ?_
    refine z_cSI1 4 (tX9_isRow) kX9_isRow dX9_comes_1 rfl lX9_83 (Nat.le_of_ble_eq_true rfl) ?_
    rintro _ _ ⟨e1, e2⟩
    replace e1 := e1.symm
    replace e2 := e2.symm
    subst e1
    subst e2
    refine z_ifb_eq 23 7 dX9_comes_4 (by decide) rfl (fun h4 => ?_) (fun h4 => ?_)
    · refine z_iconst 24 (v := (-1)) dX9_comes_23 rfl rfl ?_
      refine z_ri dX9_comes_24 rfl ?_
      exact qx0 (if_pos hA) hX Fr.rf
    · refine z_aload_n 8 dX9_comes_7 rfl rfl ?_
      refine z_iload_n 9 dX9_comes_8 rfl rfl ?_
      refine z_cVI1 12 (tX9_isWord (by assumption) (by assumption)) kX9_isWord dX9_comes_9 rfl lX9_165 (by first | assumption | rfl) (Nat.le_of_ble_eq_true rfl) ?_
      rintro _ _ ⟨e1, e2⟩
      replace e1 := e1.symm
      replace e2 := e2.symm
      subst e1
      subst e2
      refine z_ifb_eq 23 15 dX9_comes_12 (by decide) rfl (fun h12 => ?_) (fun h12 => ?_)
      · refine z_iconst 24 (v := (-1)) dX9_comes_23 rfl rfl ?_
        refine z_ri dX9_comes_24 rfl ?_
        exact qx0 (if_pos hA) hX Fr.rf
      · refine z_aload_n 16 dX9_comes_15 rfl rfl ?_
        refine z_iload_n 17 dX9_comes_16 rfl rfl ?_
        refine z_cVI1 20 (tX9_isWord (by assumption) (by assumption)) kX9_isWord dX9_comes_17 rfl lX9_165 (by first | assumption | rfl) (Nat.le_of_ble_eq_true rfl) ?_
        rintro _ _ ⟨e1, e2⟩
        replace e1 := e1.symm
        replace e2 := e2.symm
        subst e1
        subst e2
        refine z_ifb_ne 25 23 dX9_comes_20 (by decide) rfl (fun h20 => ?_) (fun h20 => ?_)
        · exact absurd ⟨h4, h12, h20⟩ hA
        · refine z_iconst 24 (v := (-1)) dX9_comes_23 rfl rfl ?_
          refine z_ri dX9_comes_24 rfl ?_
          exact qx0 (if_pos hA) hX Fr.rf
  have e0 : spComes S r w v = _ := if_neg hA
  have hA := Classical.not_not.mp hA
  have hA' := hA
  obtain ⟨a1, a2, a3⟩ := hA
  obtain ⟨r, hr, rfl⟩ := inN_of a1
  obtain ⟨w, hw, rfl⟩ := inN_of a2
  obtain ⟨v, hv, rfl⟩ := inN_of a3
  obtain ⟨b1, b2, b3⟩ := hA'
  rw [zx_nI (by omega), zx_nI (by omega), zx_nI (by omega)] at e0
  have hpl := sTf_lt S (sR S r)
  refine Ret.of [some (zr E 0), some (.int (nI r)), some (.int (nI w)), some (.int (nI v)), none] (by decide +kernel) (Nat.le_of_ble_eq_true rfl) rfl ?_
  by_cases hD : sTf S (sR S r) = 0
  · rw [if_neg (fun z => z hD)] at e0
    obtain ⟨q, hq, hT, hqg⟩ := sTf0 hD
    have hsz : sSz (sR S r) = q.1 := by rw [hq]; rfl
    unfold odR whR at e0
    rw [hsz] at e0
    have n2 := hT.1.1
    have n8 := hT.1.2.1
    have o1 := odN_le hW hT 0 hw (q.1 / 2) hv
    have o2 := p24 (show q.1 / 2 ≤ 4 by omega)
    refine z_iload_n 1 dX9_comes_0 rfl rfl ?_
    refine z_cSI1 4 (tX9_isRow) kX9_isRow dX9_comes_1 rfl lX9_83 (Nat.le_of_ble_eq_true rfl) ?_
    rintro _ _ ⟨e1, e2⟩
    replace e1 := e1.symm
    replace e2 := e2.symm
    subst e1
    subst e2
    refine z_ifb_eq 23 7 dX9_comes_4 (by decide) rfl (fun h4 => ?_) (fun h4 => ?_)
    · exact absurd b1 h4
    · refine z_aload_n 8 dX9_comes_7 rfl rfl ?_
      refine z_iload_n 9 dX9_comes_8 rfl rfl ?_
      refine z_cVI1 12 (tX9_isWord (by assumption) (by assumption)) kX9_isWord dX9_comes_9 rfl lX9_165 (by first | assumption | rfl) (Nat.le_of_ble_eq_true rfl) ?_
      rintro _ _ ⟨e1, e2⟩
      replace e1 := e1.symm
      replace e2 := e2.symm
      subst e1
      subst e2
      refine z_ifb_eq 23 15 dX9_comes_12 (by decide) rfl (fun h12 => ?_) (fun h12 => ?_)
      · exact absurd b2 h12
      · refine z_aload_n 16 dX9_comes_15 rfl rfl ?_
        refine z_iload_n 17 dX9_comes_16 rfl rfl ?_
        refine z_cVI1 20 (tX9_isWord (by assumption) (by assumption)) kX9_isWord dX9_comes_17 rfl lX9_165 (by first | assumption | rfl) (Nat.le_of_ble_eq_true rfl) ?_
        rintro _ _ ⟨e1, e2⟩
        replace e1 := e1.symm
        replace e2 := e2.symm
        subst e1
        subst e2
        refine z_ifb_ne 25 23 dX9_comes_20 (by decide) rfl (fun h20 => ?_) (fun h20 => ?_)
        · refine z_aload_n 26 dX9_comes_25 rfl rfl ?_
          refine z_iload_n 27 dX9_comes_26 rfl rfl ?_
          refine z_cVI1 30 (tX9_tableFault hW hX hr) kX9_tableFault dX9_comes_27 rfl lX9_233 (by first | assumption | rfl) (Nat.le_of_ble_eq_true rfl) ?_
          rintro _ _ ⟨e1, e2⟩
          replace e1 := e1.symm
          replace e2 := e2.symm
          subst e1
          subst e2
          rw [hD]
          refine zs_istore_4_5 32 rfl dX9_comes_30 rfl rfl ?_
          refine z_iload 34 dX9_comes_32 rfl rfl ?_
          refine z_if_eq 47 37 dX9_comes_34 (by decide) rfl (fun h34 => ?_) (fun h34 => ?_)
          · (try rw [nI_eq0 (by omega)] at h34)
            refine z_aload_n 48 dX9_comes_47 rfl rfl ?_
            refine z_iload_n 49 dX9_comes_48 rfl rfl ?_
            refine z_cVV1 52 (tX9_seatTable (t := gOf (sR S r)) hW hX hr hq hT hqg) kX9_seatTable dX9_comes_49 rfl lX9_236 (by first | assumption | rfl) (Nat.le_of_ble_eq_true rfl) ?_
            rintro τ1 ⟨hF1, hX1, hD1, hS1⟩
            refine z_aload_n 53 dX9_comes_52 rfl rfl ?_
            refine gX9_39 56 rfl dX9_comes_53 rfl ?_
            refine z_aload_n 57 dX9_comes_56 rfl rfl ?_
            refine gX9_60 60 rfl dX9_comes_57 rfl ?_
            refine z_iconst 61 (v := nI 0) dX9_comes_60 rfl rfl ?_
            refine z_iload_n 62 dX9_comes_61 rfl rfl ?_
            refine z_iload_n 63 dX9_comes_62 rfl rfl ?_
            refine z_cVJ3 66 (tX5_reach hW hT hD1 (show 0 < 8 by omega) (adj_of (by omega) hS1 0) hw hv) kX5_reach dX9_comes_63 rfl lX9_239 (by first | assumption | rfl) (Nat.le_of_ble_eq_true rfl) ?_
            rintro _ τ2 ⟨e2, hF2⟩
            subst e2
            have hX2 : RX S τ2 := hX1.scr hW (hF2.mono fOd_xS)
            refine z_aload_n 67 dX9_comes_66 rfl rfl ?_
            refine gX9_60 70 rfl dX9_comes_67 rfl ?_
            refine z_cVJ0 73 (tX5_whole ((hF2.gi (by omega)).trans hD1.1) n8) kX5_whole dX9_comes_70 rfl lX9_243 (by first | assumption | rfl) (Nat.le_of_ble_eq_true rfl) ?_
            rintro _ _ ⟨e1, e2⟩
            replace e1 := e1.symm
            replace e2 := e2.symm
            subst e1
            subst e2
            refine z_cVI2 76 (tX0_tell (by omega) (by omega) (wh_pos _)) kX0_tell dX9_comes_73 rfl lX9_246 (by first | assumption | rfl) (Nat.le_of_ble_eq_true rfl) ?_
            rintro _ _ ⟨e1, e2⟩
            replace e1 := e1.symm
            replace e2 := e2.symm
            subst e1
            subst e2
            refine z_ri dX9_comes_76 rfl ?_
            exact qxt hW e0 hX2 (hF1.tr hF2 (by intros; omega) (by intros; omega))
          · (try rw [nI_eq0 (by omega)] at h34)
            exact absurd rfl h34
        · exact absurd b3 h20
  · rw [if_pos hD] at e0
    refine z_iload_n 1 dX9_comes_0 rfl rfl ?_
    refine z_cSI1 4 (tX9_isRow) kX9_isRow dX9_comes_1 rfl lX9_83 (Nat.le_of_ble_eq_true rfl) ?_
    rintro _ _ ⟨e1, e2⟩
    replace e1 := e1.symm
    replace e2 := e2.symm
    subst e1
    subst e2
    refine z_ifb_eq 23 7 dX9_comes_4 (by decide) rfl (fun h4 => ?_) (fun h4 => ?_)
    · exact absurd b1 h4
    · refine z_aload_n 8 dX9_comes_7 rfl rfl ?_
      refine z_iload_n 9 dX9_comes_8 rfl rfl ?_
      refine z_cVI1 12 (tX9_isWord (by assumption) (by assumption)) kX9_isWord dX9_comes_9 rfl lX9_165 (by first | assumption | rfl) (Nat.le_of_ble_eq_true rfl) ?_
      rintro _ _ ⟨e1, e2⟩
      replace e1 := e1.symm
      replace e2 := e2.symm
      subst e1
      subst e2
      refine z_ifb_eq 23 15 dX9_comes_12 (by decide) rfl (fun h12 => ?_) (fun h12 => ?_)
      · exact absurd b2 h12
      · refine z_aload_n 16 dX9_comes_15 rfl rfl ?_
        refine z_iload_n 17 dX9_comes_16 rfl rfl ?_
        refine z_cVI1 20 (tX9_isWord (by assumption) (by assumption)) kX9_isWord dX9_comes_17 rfl lX9_165 (by first | assumption | rfl) (Nat.le_of_ble_eq_true rfl) ?_
        rintro _ _ ⟨e1, e2⟩
        replace e1 := e1.symm
        replace e2 := e2.symm
        subst e1
        subst e2
        refine z_ifb_ne 25 23 dX9_comes_20 (by decide) rfl (fun h20 => ?_) (fun h20 => ?_)
        · refine z_aload_n 26 dX9_comes_25 rfl rfl ?_
          refine z_iload_n 27 dX9_comes_26 rfl rfl ?_
          refine z_cVI1 30 (tX9_tableFault hW hX hr) kX9_tableFault dX9_comes_27 rfl lX9_233 (by first | assumption | rfl) (Nat.le_of_ble_eq_true rfl) ?_
          rintro _ _ ⟨e1, e2⟩
          replace e1 := e1.symm
          replace e2 := e2.symm
          subst e1
          subst e2
          refine zs_istore_4_5 32 rfl dX9_comes_30 rfl rfl ?_
          refine z_iload 34 dX9_comes_32 rfl rfl ?_
          refine z_if_eq 47 37 dX9_comes_34 (by decide) rfl (fun h34 => ?_) (fun h34 => ?_)
          · (try rw [nI_eq0 (by omega)] at h34)
            exact absurd h34 hD
          · (try rw [nI_eq0 (by omega)] at h34)
            refine z_aload_n 38 dX9_comes_37 rfl rfl ?_
            refine gX9_39 41 rfl dX9_comes_38 rfl ?_
            refine z_iload 43 dX9_comes_41 rfl rfl ?_
            refine z_cVI1 46 (tX0_found (by omega) hpl) kX0_found dX9_comes_43 rfl lX9_87 (by first | assumption | rfl) (Nat.le_of_ble_eq_true rfl) ?_
            rintro _ _ ⟨e1, e2⟩
            replace e1 := e1.symm
            replace e2 := e2.symm
            subst e1
            subst e2
            refine z_ri dX9_comes_46 rfl ?_
            exact qxf hW e0 hpl hX Fr.rf
        · exact absurd b3 h20
set_option maxRecDepth 20000 in
theorem tX10_comes {E : zE} {d : Nat} {σ : zM} {S : sS} {r w v : Int32} (hW : WF S) (hX : RM S σ) : Ret E mX10_comes (d + 9) [zr E 102, .int r, .int w, .int v] σ (qM σ (spComes S r w v)) := by
  have h8 := hW.2.1.1
  have hb8 := bw_le hW (show 0 < 2 by omega)
  by_cases hA : ¬ (inN r 6 ∧ inN w (sBw S 0) ∧ inN v (sBw S 0))
  · refine Ret.of [some (zr E 102), some (.int r), some (.int w), some (.int v), none] (by decide +kernel) (Nat.le_of_ble_eq_true rfl) rfl ?_
    refine z_iload_n 1 dX10_comes_0 rfl rfl ?_
    refine z_cSI1 4 (tX10_isRow) kX10_isRow dX10_comes_1 rfl lX10_95 (Nat.le_of_ble_eq_true rfl) ?_
    rintro _ _ ⟨e1, e2⟩
    replace e1 := e1.symm
    replace e2 := e2.symm
    subst e1
    subst e2
    refine z_ifb_eq 23 7 dX10_comes_4 (by decide) rfl (fun h4 => ?_) (fun h4 => ?_)
    · refine z_iconst 24 (v := (-1)) dX10_comes_23 rfl rfl ?_
      refine z_ri dX10_comes_24 rfl ?_
      exact qm0 (if_pos hA) hX Fr.rf
    · refine z_aload_n 8 dX10_comes_7 rfl rfl ?_
      refine z_iload_n 9 dX10_comes_8 rfl rfl ?_
      refine z_cVI1 12 (tX10_isWord (by assumption) (by assumption)) kX10_isWord dX10_comes_9 rfl lX10_151 (by first | assumption | rfl) (Nat.le_of_ble_eq_true rfl) ?_
      rintro _ _ ⟨e1, e2⟩
      replace e1 := e1.symm
      replace e2 := e2.symm
      subst e1
      subst e2
      refine z_ifb_eq 23 15 dX10_comes_12 (by decide) rfl (fun h12 => ?_) (fun h12 => ?_)
      · refine z_iconst 24 (v := (-1)) dX10_comes_23 rfl rfl ?_
        refine z_ri dX10_comes_24 rfl ?_
        exact qm0 (if_pos hA) hX Fr.rf
      · refine z_aload_n 16 dX10_comes_15 rfl rfl ?_
        refine z_iload_n 17 dX10_comes_16 rfl rfl ?_
        refine z_cVI1 20 (tX10_isWord (by assumption) (by assumption)) kX10_isWord dX10_comes_17 rfl lX10_151 (by first | assumption | rfl) (Nat.le_of_ble_eq_true rfl) ?_
        rintro _ _ ⟨e1, e2⟩
        replace e1 := e1.symm
        replace e2 := e2.symm
        subst e1
        subst e2
        refine z_ifb_ne 25 23 dX10_comes_20 (by decide) rfl (fun h20 => ?_) (fun h20 => ?_)
        · exact absurd ⟨h4, h12, h20⟩ hA
        · refine z_iconst 24 (v := (-1)) dX10_comes_23 rfl rfl ?_
          refine z_ri dX10_comes_24 rfl ?_
          exact qm0 (if_pos hA) hX Fr.rf
  have e0 : spComes S r w v = _ := if_neg hA
  have hA := Classical.not_not.mp hA
  have hA' := hA
  obtain ⟨a1, a2, a3⟩ := hA
  obtain ⟨r, hr, rfl⟩ := inN_of a1
  obtain ⟨w, hw, rfl⟩ := inN_of a2
  obtain ⟨v, hv, rfl⟩ := inN_of a3
  obtain ⟨b1, b2, b3⟩ := hA'
  rw [zx_nI (by omega), zx_nI (by omega), zx_nI (by omega)] at e0
  have hpl := sTf_lt S (sR S r)
  refine Ret.of [some (zr E 102), some (.int (nI r)), some (.int (nI w)), some (.int (nI v)), none] (by decide +kernel) (Nat.le_of_ble_eq_true rfl) rfl ?_
  by_cases hD : sTf S (sR S r) = 0
  · rw [if_neg (fun z => z hD)] at e0
    obtain ⟨q, hq, hT, hqg⟩ := sTf0 hD
    have hsz : sSz (sR S r) = q.1 := by rw [hq]; rfl
    unfold odR whR at e0
    rw [hsz] at e0
    have n2 := hT.1.1
    have n8 := hT.1.2.1
    have o1 := odN_le hW hT 0 hw (q.1 / 2) hv
    have o2 := p24 (show q.1 / 2 ≤ 4 by omega)
    refine z_iload_n 1 dX10_comes_0 rfl rfl ?_
    refine z_cSI1 4 (tX10_isRow) kX10_isRow dX10_comes_1 rfl lX10_95 (Nat.le_of_ble_eq_true rfl) ?_
    rintro _ _ ⟨e1, e2⟩
    replace e1 := e1.symm
    replace e2 := e2.symm
    subst e1
    subst e2
    refine z_ifb_eq 23 7 dX10_comes_4 (by decide) rfl (fun h4 => ?_) (fun h4 => ?_)
    · exact absurd b1 h4
    · refine z_aload_n 8 dX10_comes_7 rfl rfl ?_
      refine z_iload_n 9 dX10_comes_8 rfl rfl ?_
      refine z_cVI1 12 (tX10_isWord (by assumption) (by assumption)) kX10_isWord dX10_comes_9 rfl lX10_151 (by first | assumption | rfl) (Nat.le_of_ble_eq_true rfl) ?_
      rintro _ _ ⟨e1, e2⟩
      replace e1 := e1.symm
      replace e2 := e2.symm
      subst e1
      subst e2
      refine z_ifb_eq 23 15 dX10_comes_12 (by decide) rfl (fun h12 => ?_) (fun h12 => ?_)
      · exact absurd b2 h12
      · refine z_aload_n 16 dX10_comes_15 rfl rfl ?_
        refine z_iload_n 17 dX10_comes_16 rfl rfl ?_
        refine z_cVI1 20 (tX10_isWord (by assumption) (by assumption)) kX10_isWord dX10_comes_17 rfl lX10_151 (by first | assumption | rfl) (Nat.le_of_ble_eq_true rfl) ?_
        rintro _ _ ⟨e1, e2⟩
        replace e1 := e1.symm
        replace e2 := e2.symm
        subst e1
        subst e2
        refine z_ifb_ne 25 23 dX10_comes_20 (by decide) rfl (fun h20 => ?_) (fun h20 => ?_)
        · refine z_aload_n 26 dX10_comes_25 rfl rfl ?_
          refine z_iload_n 27 dX10_comes_26 rfl rfl ?_
          refine z_cVI1 30 (tX10_askedTable hW hX hr) kX10_askedTable dX10_comes_27 rfl lX10_238 (by first | assumption | rfl) (Nat.le_of_ble_eq_true rfl) ?_
          rintro x1 τ1 hx
          obtain ⟨_, e1, hF1, hX1, hB1⟩ := hx.resolve_right (fun z => z.1 hD)
          subst e1
          rw [hsz] at hB1
          refine zs_istore_4_5 32 rfl dX10_comes_30 rfl rfl ?_
          refine z_iload 34 dX10_comes_32 rfl rfl ?_
          refine z_if_ge 40 37 dX10_comes_34 (by decide) rfl (fun h34 => ?_) (fun h34 => ?_)
          · refine z_aload_n 41 dX10_comes_40 rfl rfl ?_
            refine z_iconst 42 (v := nI 0) dX10_comes_41 rfl rfl ?_
            refine z_iload_n 43 dX10_comes_42 rfl rfl ?_
            refine z_cVV2 46 (tX10_setOdds hW hX1 hT hB1 (show 0 < 8 by omega) hw) kX10_setOdds dX10_comes_43 rfl lX10_241 (by first | assumption | rfl) (Nat.le_of_ble_eq_true rfl) ?_
            rintro τ2 ⟨hF2, hX2, hO2⟩
            refine z_aload_n 47 dX10_comes_46 rfl rfl ?_
            refine z_aload_n 48 dX10_comes_47 rfl rfl ?_
            refine gX10_56 51 rfl dX10_comes_48 rfl ?_
            refine z_iload_n 52 dX10_comes_51 rfl rfl ?_
            refine z_laldn 53 dX10_comes_52 rfl (by first | assumption | rfl) (by omega) ?_
            rw [hO2 v hv]
            refine z_aload_n 54 dX10_comes_53 rfl rfl ?_
            refine z_cVI0 57 (tX10_steps (hB1.fr hF2 (by omega) (by intros; omega)) n8) kX10_steps dX10_comes_54 rfl lX10_232 (by first | assumption | rfl) (Nat.le_of_ble_eq_true rfl) ?_
            rintro _ _ ⟨e1, e2⟩
            replace e1 := e1.symm
            replace e2 := e2.symm
            subst e1
            subst e2
            refine z_cSJ1 60 (tX10_whole (by omega)) kX10_whole dX10_comes_57 rfl lX10_244 (Nat.le_of_ble_eq_true rfl) ?_
            rintro _ _ ⟨e1, e2⟩
            replace e1 := e1.symm
            replace e2 := e2.symm
            subst e1
            subst e2
            refine z_iconst 61 (v := nI 1) dX10_comes_60 rfl rfl ?_
            refine z_cVI3 64 (tX10_part (by omega) (by omega) (wh_pos _)) kX10_part dX10_comes_61 rfl lX10_248 (by first | assumption | rfl) (Nat.le_of_ble_eq_true rfl) ?_
            rintro _ _ ⟨e1, e2⟩
            replace e1 := e1.symm
            replace e2 := e2.symm
            subst e1
            subst e2
            refine z_ri dX10_comes_64 rfl ?_
            exact qmt hW e0 hX2 (hF1.tr hF2 (by intros; omega) (by intros; omega))
          · exact absurd (nI_pos' (by decide)) h34
        · exact absurd b3 h20
  · rw [if_pos hD] at e0
    refine z_iload_n 1 dX10_comes_0 rfl rfl ?_
    refine z_cSI1 4 (tX10_isRow) kX10_isRow dX10_comes_1 rfl lX10_95 (Nat.le_of_ble_eq_true rfl) ?_
    rintro _ _ ⟨e1, e2⟩
    replace e1 := e1.symm
    replace e2 := e2.symm
    subst e1
    subst e2
    refine z_ifb_eq 23 7 dX10_comes_4 (by decide) rfl (fun h4 => ?_) (fun h4 => ?_)
    · exact absurd b1 h4
    · refine z_aload_n 8 dX10_comes_7 rfl rfl ?_
      refine z_iload_n 9 dX10_comes_8 rfl rfl ?_
      refine z_cVI1 12 (tX10_isWord (by assumption) (by assumption)) kX10_isWord dX10_comes_9 rfl lX10_151 (by first | assumption | rfl) (Nat.le_of_ble_eq_true rfl) ?_
      rintro _ _ ⟨e1, e2⟩
      replace e1 := e1.symm
      replace e2 := e2.symm
      subst e1
      subst e2
      refine z_ifb_eq 23 15 dX10_comes_12 (by decide) rfl (fun h12 => ?_) (fun h12 => ?_)
      · exact absurd b2 h12
      · refine z_aload_n 16 dX10_comes_15 rfl rfl ?_
        refine z_iload_n 17 dX10_comes_16 rfl rfl ?_
        refine z_cVI1 20 (tX10_isWord (by assumption) (by assumption)) kX10_isWord dX10_comes_17 rfl lX10_151 (by first | assumption | rfl) (Nat.le_of_ble_eq_true rfl) ?_
        rintro _ _ ⟨e1, e2⟩
        replace e1 := e1.symm
        replace e2 := e2.symm
        subst e1
        subst e2
        refine z_ifb_ne 25 23 dX10_comes_20 (by decide) rfl (fun h20 => ?_) (fun h20 => ?_)
        · refine z_aload_n 26 dX10_comes_25 rfl rfl ?_
          refine z_iload_n 27 dX10_comes_26 rfl rfl ?_
          refine z_cVI1 30 (tX10_askedTable hW hX hr) kX10_askedTable dX10_comes_27 rfl lX10_238 (by first | assumption | rfl) (Nat.le_of_ble_eq_true rfl) ?_
          rintro x1 τ1 hx
          obtain ⟨_, e1, e2⟩ := hx.resolve_left (fun z => hD z.1)
          subst e1
          subst e2
          refine zs_istore_4_5 32 rfl dX10_comes_30 rfl rfl ?_
          refine z_iload 34 dX10_comes_32 rfl rfl ?_
          refine z_if_ge 40 37 dX10_comes_34 (by decide) rfl (fun h34 => ?_) (fun h34 => ?_)
          · exact absurd h34 (by decide)
          · refine z_iload 39 dX10_comes_37 rfl rfl ?_
            refine z_ri dX10_comes_39 rfl ?_
            exact qmf hW e0 hpl hX Fr.rf
        · exact absurd b3 h20
/-! most -/
def odA (S : sS) (o : sRow) (v : Nat) : Nat := odN S (gOf o) (sSz o) 0 (fun _ => 1) (sSz o / 2) v
def moR (S : sS) (o : sRow) : Int32 × sS := sTell S (odA S o (amx (odA S o) (sBw S 0))) (whR o) (nI (amx (odA S o) (sBw S 0)))
def spMost (S : sS) (r : Int32) : Int32 × sS := if ¬ inN r 6 then (-1, S) else if ¬ sTf S (sR S (zx r)) = 0 then sFd S (sTf S (sR S (zx r))) else moR S (sR S (zx r))
theorem ones_sum (m : Nat) : fsum (fun _ => 1) m = m := by
  induction m with
  | zero => rfl
  | succ m ih => rw [fsum, ih]
theorem odA_le {S : sS} (hW : WF S) {n : Nat} {t : Nat → Nat} (hT : TbOK S n t) {k : Nat} (hk : k ≤ n / 2) {v : Nat} (hv : v < sBw S 0) : odN S t n 0 (fun _ => 1) k v ≤ 2654208 := by
  have hb8 := bw_le hW (show 0 < 2 by omega)
  have n8 := hT.1.2.1
  have h1 := odN_sum hW hT 0 (fun _ => 1) k
  rw [ones_sum] at h1
  have h2 := fsum_one (f := odN S t n 0 (fun _ => 1) k) (sBw S 0) v hv
  have h3 : 24 ^ k * sBw S 0 ≤ 331776 * 8 := Nat.mul_le_mul (p24 (by omega)) hb8
  omega
theorem bw_pos {S : sS} (hW : WF S) {n : Nat} {t : Nat → Nat} (hT : TbOK S n t) : 0 < sBw S 0 := by
  have h1 := (hT.2 0 (by have := hT.1.1; omega)).1
  have h2 := (plOK hW h1).2.2.2.2
  omega
set_option maxRecDepth 20000 in
theorem tX9_most {E : zE} {d : Nat} {σ : zM} {S : sS} {r : Int32} (hW : WF S) (hX : RX S σ) : Ret E mX9_most (d + 5) [zr E 0, .int r] σ (qX σ (spMost S r)) := by
  have h8 := hW.2.1.1
  have hb8 := bw_le hW (show 0 < 2 by omega)
  by_cases hA : ¬ inN r 6
  · refine Ret.of [some (zr E 0), some (.int r), none, none, none] (by decide +kernel) (Nat.le_of_ble_eq_true rfl) rfl ?_
    refine z_iload_n 1 dX9_most_0 rfl rfl ?_
    refine z_cSI1 4 (tX9_isRow) kX9_isRow dX9_most_1 rfl lX9_83 (Nat.le_of_ble_eq_true rfl) ?_
    rintro _ _ ⟨e1, e2⟩
    replace e1 := e1.symm
    replace e2 := e2.symm
    subst e1
    subst e2
    refine z_ifb_ne 9 7 dX9_most_4 (by decide) rfl (fun h4 => ?_) (fun h4 => ?_)
    · exact absurd h4 hA
    · refine z_iconst 8 (v := (-1)) dX9_most_7 rfl rfl ?_
      refine z_ri dX9_most_8 rfl ?_
      exact qx0 (if_pos hA) hX Fr.rf
  have e0 : spMost S r = _ := if_neg hA
  have hA := Classical.not_not.mp hA
  have b1 := hA
  obtain ⟨r, hr, rfl⟩ := inN_of hA
  rw [zx_nI (by omega)] at e0
  have hpl := sTf_lt S (sR S r)
  refine Ret.of [some (zr E 0), some (.int (nI r)), none, none, none] (by decide +kernel) (Nat.le_of_ble_eq_true rfl) rfl ?_
  by_cases hD : sTf S (sR S r) = 0
  · rw [if_neg (fun z => z hD)] at e0
    obtain ⟨q, hq, hT, hqg⟩ := sTf0 hD
    have hsz : sSz (sR S r) = q.1 := by rw [hq]; rfl
    have ef : odA S (sR S r) = odN S (gOf (sR S r)) q.1 0 (fun _ => 1) (q.1 / 2) := by funext v; unfold odA; rw [hsz]
    unfold moR whR at e0
    rw [hsz] at e0
    have n2 := hT.1.1
    have n8 := hT.1.2.1
    have hw0 := bw_pos hW hT
    have ob : ∀ v, v < sBw S 0 → odA S (sR S r) v ≤ 2654208 := fun v hv => by rw [ef]; exact odA_le hW hT (Nat.le_refl _) hv
    have o2 := p24 (show q.1 / 2 ≤ 4 by omega)
    have loop : ∀ i, i ≤ sBw S 0 → 1 ≤ i → ∀ τ, Fr xS σ τ → RX S τ → RdT τ q.1 (sBw S 0) (gOf (sR S r)) → OdX τ (sBw S 0) (odA S (sR S r)) → At E mX9_most (d + 5) (qX σ (spMost S (nI r))) 53 [some (zr E 0), some (.int (nI r)), some (.int (nI 0)), some (.int (nI (amx (odA S (sR S r)) i))), some (.int (nI i))] [] τ := by
      refine z_up (fun i hi ih h1 τ hF hR hD hO => ?_)
      have ha := (amx_spec (odA S (sR S r)) i (by omega)).1
      by_cases hie : i = sBw S 0
      · rw [hie] at ha ⊢
        have o3 := ob _ ha
        refine z_iload 55 dX9_most_53 rfl rfl ?_
        refine z_aload_n 56 dX9_most_55 rfl rfl ?_
        refine gX9_60 59 rfl dX9_most_56 rfl ?_
        refine gX9_256 62 rfl dX9_most_59 rfl (by first | assumption | rfl) ?_
        rw [hD.2.1]
        refine z_icmp_ge 97 65 dX9_most_62 (by decide) rfl (fun h62 => ?_) (fun h62 => ?_)
        · (try rw [nI_leI (by omega) (by omega)] at h62)
          refine z_aload_n 98 dX9_most_97 rfl rfl ?_
          refine gX9_39 101 rfl dX9_most_98 rfl ?_
          refine z_aload_n 102 dX9_most_101 rfl rfl ?_
          refine gX9_60 105 rfl dX9_most_102 rfl ?_
          refine gX9_257 108 rfl dX9_most_105 rfl (by first | assumption | rfl) ?_
          refine z_iload_n 109 dX9_most_108 rfl rfl ?_
          refine z_laldn 110 dX9_most_109 rfl (by first | assumption | rfl) (by omega) ?_
          rw [hO _ ha]
          refine z_aload_n 111 dX9_most_110 rfl rfl ?_
          refine gX9_60 114 rfl dX9_most_111 rfl ?_
          refine z_cVJ0 117 (tX5_whole hD.1 n8) kX5_whole dX9_most_114 rfl lX9_243 (by first | assumption | rfl) (Nat.le_of_ble_eq_true rfl) ?_
          rintro _ _ ⟨e1, e2⟩
          replace e1 := e1.symm
          replace e2 := e2.symm
          subst e1
          subst e2
          refine z_cVI2 120 (tX0_tell (by omega) (by omega) (wh_pos _)) kX0_tell dX9_most_117 rfl lX9_246 (by first | assumption | rfl) (Nat.le_of_ble_eq_true rfl) ?_
          rintro _ _ ⟨e1, e2⟩
          replace e1 := e1.symm
          replace e2 := e2.symm
          subst e1
          subst e2
          refine z_pop 121 dX9_most_120 rfl rfl ?_
          refine z_iload_n 122 dX9_most_121 rfl rfl ?_
          refine z_ri dX9_most_122 rfl ?_
          exact qxt hW e0 hR (hF.mono xS_all)
        · (try rw [nI_leI (by omega) (by omega)] at h62)
          omega
      · have hil : i < sBw S 0 := by omega
        have o3 := ob _ (show amx (odA S (sR S r)) i < sBw S 0 by omega)
        have o4 := ob i hil
        refine z_iload 55 dX9_most_53 rfl rfl ?_
        refine z_aload_n 56 dX9_most_55 rfl rfl ?_
        refine gX9_60 59 rfl dX9_most_56 rfl ?_
        refine gX9_256 62 rfl dX9_most_59 rfl (by first | assumption | rfl) ?_
        rw [hD.2.1]
        refine z_icmp_ge 97 65 dX9_most_62 (by decide) rfl (fun h62 => ?_) (fun h62 => ?_)
        · (try rw [nI_leI (by omega) (by omega)] at h62)
          omega
        · (try rw [nI_leI (by omega) (by omega)] at h62)
          refine z_aload_n 66 dX9_most_65 rfl rfl ?_
          refine gX9_60 69 rfl dX9_most_66 rfl ?_
          refine gX9_257 72 rfl dX9_most_69 rfl (by first | assumption | rfl) ?_
          refine z_iload 74 dX9_most_72 rfl rfl ?_
          refine z_laldn 75 dX9_most_74 rfl (by first | assumption | rfl) (by omega) ?_
          rw [hO i hil]
          refine z_aload_n 76 dX9_most_75 rfl rfl ?_
          refine gX9_60 79 rfl dX9_most_76 rfl ?_
          refine gX9_257 82 rfl dX9_most_79 rfl (by first | assumption | rfl) ?_
          refine z_iload_n 83 dX9_most_82 rfl rfl ?_
          refine z_laldn 84 dX9_most_83 rfl (by first | assumption | rfl) (by omega) ?_
          rw [hO _ (show amx (odA S (sR S r)) i < sBw S 0 by omega)]
          refine z_lcmp 85 dX9_most_84 rfl ?_
          refine z_if_le 91 88 dX9_most_85 (by decide) rfl (fun h85 => ?_) (fun h85 => ?_)
          · rw [lg_cmp_le] at h85
            rw [pk_lLE (by omega) (by omega)] at h85
            have er : amx (odA S (sR S r)) (i + 1) = amx (odA S (sR S r)) i := if_neg (by omega)
            refine zs_iinc_4_5_1 94 rfl dX9_most_91 rfl rfl ?_
            rw [nI_add]
            refine z_goto 53 dX9_most_94 rfl ?_
            have hih := ih (i + 1) (by omega) (by omega) (by omega) τ hF hR hD hO
            rw [er] at hih
            exact hih
          · rw [lg_cmp_le] at h85
            rw [pk_lLE (by omega) (by omega)] at h85
            have er : amx (odA S (sR S r)) (i + 1) = i := if_pos (by omega)
            refine z_iload 90 dX9_most_88 rfl rfl ?_
            refine zs_istore_n_3_5 91 rfl dX9_most_90 rfl rfl ?_
            refine zs_iinc_4_5_1 94 rfl dX9_most_91 rfl rfl ?_
            rw [nI_add]
            refine z_goto 53 dX9_most_94 rfl ?_
            have hih := ih (i + 1) (by omega) (by omega) (by omega) τ hF hR hD hO
            rw [er] at hih
            exact hih
    refine z_iload_n 1 dX9_most_0 rfl rfl ?_
    refine z_cSI1 4 (tX9_isRow) kX9_isRow dX9_most_1 rfl lX9_83 (Nat.le_of_ble_eq_true rfl) ?_
    rintro _ _ ⟨e1, e2⟩
    replace e1 := e1.symm
    replace e2 := e2.symm
    subst e1
    subst e2
    refine z_ifb_ne 9 7 dX9_most_4 (by decide) rfl (fun h4 => ?_) (fun h4 => ?_)
    · refine z_aload_n 10 dX9_most_9 rfl rfl ?_
      refine z_iload_n 11 dX9_most_10 rfl rfl ?_
      refine z_cVI1 14 (tX9_tableFault hW hX hr) kX9_tableFault dX9_most_11 rfl lX9_233 (by first | assumption | rfl) (Nat.le_of_ble_eq_true rfl) ?_
      rintro _ _ ⟨e1, e2⟩
      replace e1 := e1.symm
      replace e2 := e2.symm
      subst e1
      subst e2
      rw [hD]
      refine zs_istore_n_2_5 15 rfl dX9_most_14 rfl rfl ?_
      refine z_iload_n 16 dX9_most_15 rfl rfl ?_
      refine z_if_eq 28 19 dX9_most_16 (by decide) rfl (fun h16 => ?_) (fun h16 => ?_)
      · (try rw [nI_eq0 (by omega)] at h16)
        refine z_aload_n 29 dX9_most_28 rfl rfl ?_
        refine z_iload_n 30 dX9_most_29 rfl rfl ?_
        refine z_cVV1 33 (tX9_seatTable (t := gOf (sR S r)) hW hX hr hq hT hqg) kX9_seatTable dX9_most_30 rfl lX9_236 (by first | assumption | rfl) (Nat.le_of_ble_eq_true rfl) ?_
        rintro τ1 ⟨hF1, hX1, hD1, hS1⟩
        refine z_aload_n 34 dX9_most_33 rfl rfl ?_
        refine gX9_60 37 rfl dX9_most_34 rfl ?_
        refine z_cVV0 40 (tX5_beginWithAll) kX5_beginWithAll dX9_most_37 rfl lX9_250 (by first | assumption | rfl) (Nat.le_of_ble_eq_true rfl) ?_
        rintro τ2 ⟨hF2, hO2⟩
        refine z_aload_n 41 dX9_most_40 rfl rfl ?_
        refine gX9_60 44 rfl dX9_most_41 rfl ?_
        refine z_iconst 45 (v := nI 0) dX9_most_44 rfl rfl ?_
        refine z_cVV1 48 (tX5_passFrom (o := fun _ => 1) hW hT (hD1.fr hF2 (by omega) (by omega) (by intros; omega)) (show 0 < 8 by omega) ((adj_of (by omega) hS1 0).fr hF2 (by intros; omega)) (fun v hv => hO2 v (by omega)) (fun k hk v hv => Nat.lt_of_le_of_lt (odA_le hW hT hk hv) (by decide))) kX5_passFrom dX9_most_45 rfl lX9_253 (by first | assumption | rfl) (Nat.le_of_ble_eq_true rfl) ?_
        rintro τ3 ⟨hF3, hO3⟩
        rw [← ef] at hO3
        have hX2 : RX S τ2 := hX1.scr hW (hF2.mono (by unfold xS; intros; omega))
        have hX3 : RX S τ3 := hX2.scr hW (hF3.mono fOd_xS)
        have hF4 : Fr xS σ τ3 := ((hF1.mono fSt_xS).tr hF2 (R := xS) (fun _ _ h => h) (by unfold xS; intros; omega)).tr hF3 (fun _ _ h => h) fOd_xS
        refine z_iconst 49 (v := nI 0) dX9_most_48 rfl rfl ?_
        refine zs_istore_n_3_5 50 rfl dX9_most_49 rfl rfl ?_
        refine z_iconst 51 (v := nI 1) dX9_most_50 rfl rfl ?_
        refine zs_istore_4_5 53 rfl dX9_most_51 rfl rfl ?_
        have hl := loop 1 (by omega) (by omega) τ3 hF4 hX3 ((hD1.fr hF2 (by omega) (by omega) (by intros; omega)).fr hF3 (by omega) (by omega) (by intros; omega)) hO3
        rw [show amx (odA S (sR S r)) 1 = 0 from if_neg (Nat.lt_irrefl _)] at hl
        exact hl
      · (try rw [nI_eq0 (by omega)] at h16)
        exact absurd rfl h16
    · exact absurd b1 h4
  · rw [if_pos hD] at e0
    refine z_iload_n 1 dX9_most_0 rfl rfl ?_
    refine z_cSI1 4 (tX9_isRow) kX9_isRow dX9_most_1 rfl lX9_83 (Nat.le_of_ble_eq_true rfl) ?_
    rintro _ _ ⟨e1, e2⟩
    replace e1 := e1.symm
    replace e2 := e2.symm
    subst e1
    subst e2
    refine z_ifb_ne 9 7 dX9_most_4 (by decide) rfl (fun h4 => ?_) (fun h4 => ?_)
    · refine z_aload_n 10 dX9_most_9 rfl rfl ?_
      refine z_iload_n 11 dX9_most_10 rfl rfl ?_
      refine z_cVI1 14 (tX9_tableFault hW hX hr) kX9_tableFault dX9_most_11 rfl lX9_233 (by first | assumption | rfl) (Nat.le_of_ble_eq_true rfl) ?_
      rintro _ _ ⟨e1, e2⟩
      replace e1 := e1.symm
      replace e2 := e2.symm
      subst e1
      subst e2
      refine zs_istore_n_2_5 15 rfl dX9_most_14 rfl rfl ?_
      refine z_iload_n 16 dX9_most_15 rfl rfl ?_
      refine z_if_eq 28 19 dX9_most_16 (by decide) rfl (fun h16 => ?_) (fun h16 => ?_)
      · (try rw [nI_eq0 (by omega)] at h16)
        exact absurd h16 hD
      · (try rw [nI_eq0 (by omega)] at h16)
        refine z_aload_n 20 dX9_most_19 rfl rfl ?_
        refine gX9_39 23 rfl dX9_most_20 rfl ?_
        refine z_iload_n 24 dX9_most_23 rfl rfl ?_
        refine z_cVI1 27 (tX0_found (by omega) hpl) kX0_found dX9_most_24 rfl lX9_87 (by first | assumption | rfl) (Nat.le_of_ble_eq_true rfl) ?_
        rintro _ _ ⟨e1, e2⟩
        replace e1 := e1.symm
        replace e2 := e2.symm
        subst e1
        subst e2
        refine z_ri dX9_most_27 rfl ?_
        exact qxf hW e0 hpl hX Fr.rf
    · exact absurd b1 h4
set_option maxRecDepth 20000 in
theorem tX10_most {E : zE} {d : Nat} {σ : zM} {S : sS} {r : Int32} (hW : WF S) (hX : RM S σ) : Ret E mX10_most (d + 9) [zr E 102, .int r] σ (qM σ (spMost S r)) := by
  have h8 := hW.2.1.1
  have hb8 := bw_le hW (show 0 < 2 by omega)
  have rnd : ∀ {D : Nat}, Ret E mX10_askedRound (D + 4) [zr E 102, .int r] σ (qI fun x τ => (¬ inN r 6 ∧ x = -1 ∧ τ = σ) ∨ (inN r 6 ∧ ((sTf S (sR S (zx r)) = 0 ∧ x = nI 0 ∧ Fr fT σ τ ∧ RM S τ ∧ mTb τ (sSz (sR S (zx r))) (gOf (sR S (zx r)))) ∨ (¬ sTf S (sR S (zx r)) = 0 ∧ x = -3 ∧ τ = mMt σ (sTf S (sR S (zx r))))))) := by
    intro D
    by_cases hA : inN r 6
    · have b1 := hA
      obtain ⟨r, hr, rfl⟩ := inN_of hA
      rw [zx_nI (by omega)]
      refine Ret.of [some (zr E 102), some (.int (nI r))] (by decide +kernel) (Nat.le_of_ble_eq_true rfl) rfl ?_
      refine z_iload_n 1 dX10_askedRound_0 rfl rfl ?_
      refine z_cSI1 4 (tX10_isRow) kX10_isRow dX10_askedRound_1 rfl lX10_95 (Nat.le_of_ble_eq_true rfl) ?_
      rintro _ _ ⟨e1, e2⟩
      replace e1 := e1.symm
      replace e2 := e2.symm
      subst e1
      subst e2
      refine z_ifb_eq 15 7 dX10_askedRound_4 (by decide) rfl (fun h4 => ?_) (fun h4 => ?_)
      · exact absurd b1 h4
      · refine z_aload_n 8 dX10_askedRound_7 rfl rfl ?_
        refine z_iload_n 9 dX10_askedRound_8 rfl rfl ?_
        refine z_cVI1 12 (tX10_askedTable hW hX hr) kX10_askedTable dX10_askedRound_9 rfl lX10_238 (by first | assumption | rfl) (Nat.le_of_ble_eq_true rfl) ?_
        rintro x1 τ1 hx
        refine z_goto 16 dX10_askedRound_12 rfl ?_
        refine z_ri dX10_askedRound_16 rfl ?_
        exact Or.inr ⟨b1, hx⟩
    · refine Ret.of [some (zr E 102), some (.int r)] (by decide +kernel) (Nat.le_of_ble_eq_true rfl) rfl ?_
      refine z_iload_n 1 dX10_askedRound_0 rfl rfl ?_
      refine z_cSI1 4 (tX10_isRow) kX10_isRow dX10_askedRound_1 rfl lX10_95 (Nat.le_of_ble_eq_true rfl) ?_
      rintro _ _ ⟨e1, e2⟩
      replace e1 := e1.symm
      replace e2 := e2.symm
      subst e1
      subst e2
      refine z_ifb_eq 15 7 dX10_askedRound_4 (by decide) rfl (fun h4 => ?_) (fun h4 => ?_)
      · refine z_iconst 16 (v := (-1)) dX10_askedRound_15 rfl rfl ?_
        refine z_ri dX10_askedRound_16 rfl ?_
        exact Or.inl ⟨hA, rfl, rfl⟩
      · exact absurd h4 hA
  by_cases hA : ¬ inN r 6
  · refine Ret.of [some (zr E 102), some (.int r), none, none, none] (by decide +kernel) (Nat.le_of_ble_eq_true rfl) rfl ?_
    refine z_aload_n 1 dX10_most_0 rfl rfl ?_
    refine z_iload_n 2 dX10_most_1 rfl rfl ?_
    refine z_cVI1 5 (rnd (D := d + 4)) kX10_askedRound dX10_most_2 rfl lX10_252 (by first | assumption | rfl) (Nat.le_of_ble_eq_true rfl) ?_
    rintro x1 τ1 hx
    obtain ⟨_, e1, e2⟩ := hx.resolve_right (fun z => hA z.1)
    subst e1
    replace e2 := e2.symm
    subst e2
    refine zs_istore_n_2_5 6 rfl dX10_most_5 rfl rfl ?_
    refine z_iload_n 7 dX10_most_6 rfl rfl ?_
    refine z_if_ge 12 10 dX10_most_7 (by decide) rfl (fun h7 => ?_) (fun h7 => ?_)
    · exact absurd h7 (by decide)
    · refine z_iload_n 11 dX10_most_10 rfl rfl ?_
      refine z_ri dX10_most_11 rfl ?_
      exact qm0 (if_pos hA) hX Fr.rf
  have e0 : spMost S r = _ := if_neg hA
  have hA := Classical.not_not.mp hA
  have b1 := hA
  obtain ⟨r, hr, rfl⟩ := inN_of hA
  rw [zx_nI (by omega)] at e0 rnd
  have hpl := sTf_lt S (sR S r)
  refine Ret.of [some (zr E 102), some (.int (nI r)), none, none, none] (by decide +kernel) (Nat.le_of_ble_eq_true rfl) rfl ?_
  by_cases hD : sTf S (sR S r) = 0
  · rw [if_neg (fun z => z hD)] at e0
    obtain ⟨q, hq, hT, hqg⟩ := sTf0 hD
    have hsz : sSz (sR S r) = q.1 := by rw [hq]; rfl
    have ef : odA S (sR S r) = odN S (gOf (sR S r)) q.1 0 (fun _ => 1) (q.1 / 2) := by funext v; unfold odA; rw [hsz]
    unfold moR whR at e0
    rw [hsz] at e0 rnd
    have n2 := hT.1.1
    have n8 := hT.1.2.1
    have hw0 := bw_pos hW hT
    have ob : ∀ v, v < sBw S 0 → odA S (sR S r) v ≤ 2654208 := fun v hv => by rw [ef]; exact odA_le hW hT (Nat.le_refl _) hv
    have o2 := p24 (show q.1 / 2 ≤ 4 by omega)
    have best : ∀ i, i ≤ sBw S 0 → 1 ≤ i → ∀ τ, Fr mS σ τ → RM S τ → mTb τ q.1 (gOf (sR S r)) → (∀ v, v < sBw S 0 → gl τ 119 v = lN (odA S (sR S r) v)) → At E mX10_most (d + 9) (qM σ (spMost S (nI r))) 95 [some (zr E 102), some (.int (nI r)), some (.int (nI 0)), some (.int (nI (amx (odA S (sR S r)) i))), some (.int (nI i))] [] τ := by
      refine z_up (fun i hi ih h1 τ hF hR hB hO => ?_)
      have ha := (amx_spec (odA S (sR S r)) i (by omega)).1
      by_cases hie : i = sBw S 0
      · rw [hie] at ha ⊢
        have o3 := ob _ ha
        refine z_iload 97 dX10_most_95 rfl rfl ?_
        refine z_aload_n 98 dX10_most_97 rfl rfl ?_
        refine z_cVI0 101 (tX10_words (by assumption)) kX10_words dX10_most_98 rfl lX10_144 (by first | assumption | rfl) (Nat.le_of_ble_eq_true rfl) ?_
        rintro _ _ ⟨e1, e2⟩
        replace e1 := e1.symm
        replace e2 := e2.symm
        subst e1
        subst e2
        refine z_icmp_ge 134 104 dX10_most_101 (by decide) rfl (fun h101 => ?_) (fun h101 => ?_)
        · (try rw [nI_leI (by omega) (by omega)] at h101)
          refine z_aload_n 135 dX10_most_134 rfl rfl ?_
          refine z_aload_n 136 dX10_most_135 rfl rfl ?_
          refine gX10_63 139 rfl dX10_most_136 rfl ?_
          refine z_iload_n 140 dX10_most_139 rfl rfl ?_
          refine z_laldn 141 dX10_most_140 rfl (by first | assumption | rfl) (by omega) ?_
          rw [hO _ ha]
          refine z_aload_n 142 dX10_most_141 rfl rfl ?_
          refine z_cVI0 145 (tX10_steps hB n8) kX10_steps dX10_most_142 rfl lX10_232 (by first | assumption | rfl) (Nat.le_of_ble_eq_true rfl) ?_
          rintro _ _ ⟨e1, e2⟩
          replace e1 := e1.symm
          replace e2 := e2.symm
          subst e1
          subst e2
          refine z_cSJ1 148 (tX10_whole (by omega)) kX10_whole dX10_most_145 rfl lX10_244 (Nat.le_of_ble_eq_true rfl) ?_
          rintro _ _ ⟨e1, e2⟩
          replace e1 := e1.symm
          replace e2 := e2.symm
          subst e1
          subst e2
          refine z_iload_n 149 dX10_most_148 rfl rfl ?_
          refine z_cVI3 152 (tX10_part (by omega) (by omega) (wh_pos _)) kX10_part dX10_most_149 rfl lX10_248 (by first | assumption | rfl) (Nat.le_of_ble_eq_true rfl) ?_
          rintro _ _ ⟨e1, e2⟩
          replace e1 := e1.symm
          replace e2 := e2.symm
          subst e1
          subst e2
          refine z_ri dX10_most_152 rfl ?_
          exact qmt hW e0 hR (hF.mono mS_all)
        · (try rw [nI_leI (by omega) (by omega)] at h101)
          omega
      · have hil : i < sBw S 0 := by omega
        have o3 := ob _ (show amx (odA S (sR S r)) i < sBw S 0 by omega)
        have o4 := ob i hil
        refine z_iload 97 dX10_most_95 rfl rfl ?_
        refine z_aload_n 98 dX10_most_97 rfl rfl ?_
        refine z_cVI0 101 (tX10_words (by assumption)) kX10_words dX10_most_98 rfl lX10_144 (by first | assumption | rfl) (Nat.le_of_ble_eq_true rfl) ?_
        rintro _ _ ⟨e1, e2⟩
        replace e1 := e1.symm
        replace e2 := e2.symm
        subst e1
        subst e2
        refine z_icmp_ge 134 104 dX10_most_101 (by decide) rfl (fun h101 => ?_) (fun h101 => ?_)
        · (try rw [nI_leI (by omega) (by omega)] at h101)
          omega
        · (try rw [nI_leI (by omega) (by omega)] at h101)
          refine z_aload_n 105 dX10_most_104 rfl rfl ?_
          refine gX10_63 108 rfl dX10_most_105 rfl ?_
          refine z_iload 110 dX10_most_108 rfl rfl ?_
          refine z_laldn 111 dX10_most_110 rfl (by first | assumption | rfl) (by omega) ?_
          rw [hO i hil]
          refine z_aload_n 112 dX10_most_111 rfl rfl ?_
          refine gX10_63 115 rfl dX10_most_112 rfl ?_
          refine z_iload_n 116 dX10_most_115 rfl rfl ?_
          refine z_laldn 117 dX10_most_116 rfl (by first | assumption | rfl) (by omega) ?_
          rw [hO _ (show amx (odA S (sR S r)) i < sBw S 0 by omega)]
          refine z_lcmp 118 dX10_most_117 rfl ?_
          refine z_if_le 126 121 dX10_most_118 (by decide) rfl (fun h118 => ?_) (fun h118 => ?_)
          · rw [lg_cmp_le] at h118
            rw [pk_lLE (by omega) (by omega)] at h118
            have er : amx (odA S (sR S r)) (i + 1) = amx (odA S (sR S r)) i := if_neg (by omega)
            refine z_iload_n 127 dX10_most_126 rfl rfl ?_
            refine zs_istore_n_3_5 128 rfl dX10_most_127 rfl rfl ?_
            refine zs_iinc_4_5_1 131 rfl dX10_most_128 rfl rfl ?_
            rw [nI_add]
            refine z_goto 95 dX10_most_131 rfl ?_
            have hih := ih (i + 1) (by omega) (by omega) (by omega) τ hF hR hB hO
            rw [er] at hih
            exact hih
          · rw [lg_cmp_le] at h118
            rw [pk_lLE (by omega) (by omega)] at h118
            have er : amx (odA S (sR S r)) (i + 1) = i := if_pos (by omega)
            refine z_iload 123 dX10_most_121 rfl rfl ?_
            refine z_goto 127 dX10_most_123 rfl ?_
            refine zs_istore_n_3_5 128 rfl dX10_most_127 rfl rfl ?_
            refine zs_iinc_4_5_1 131 rfl dX10_most_128 rfl rfl ?_
            rw [nI_add]
            refine z_goto 95 dX10_most_131 rfl ?_
            have hih := ih (i + 1) (by omega) (by omega) (by omega) τ hF hR hB hO
            rw [er] at hih
            exact hih
    have outer : ∀ i, i ≤ sBw S 0 → ∀ y τ, Fr mS σ τ → RM S τ → mTb τ q.1 (gOf (sR S r)) → (∀ v, v < sBw S 0 → gl τ 119 v = lN (fsum (fun w => odN S (gOf (sR S r)) q.1 0 (eW w) (q.1 / 2) v) i)) → At E mX10_most (d + 9) (qM σ (spMost S (nI r))) 35 [some (zr E 102), some (.int (nI r)), some (.int (nI 0)), some (.int (nI i)), y] [] τ := by
      refine z_up (fun i hi oh y τ hF hR hB hO => ?_)
      by_cases hie : i = sBw S 0
      · rw [hie] at hO ⊢
        have hO' : ∀ v, v < sBw S 0 → gl τ 119 v = lN (odA S (sR S r) v) := fun v hv => by rw [ef, odN_all _ hv]; exact hO v hv
        refine z_iload_n 36 dX10_most_35 rfl rfl ?_
        refine z_aload_n 37 dX10_most_36 rfl rfl ?_
        refine z_cVI0 40 (tX10_words (by assumption)) kX10_words dX10_most_37 rfl lX10_144 (by first | assumption | rfl) (Nat.le_of_ble_eq_true rfl) ?_
        rintro _ _ ⟨e1, e2⟩
        replace e1 := e1.symm
        replace e2 := e2.symm
        subst e1
        subst e2
        refine z_icmp_ge 90 43 dX10_most_40 (by decide) rfl (fun h40 => ?_) (fun h40 => ?_)
        · (try rw [nI_leI (by omega) (by omega)] at h40)
          refine z_iconst 91 (v := nI 0) dX10_most_90 rfl rfl ?_
          refine zs_istore_n_3_5 92 rfl dX10_most_91 rfl rfl ?_
          refine z_iconst 93 (v := nI 1) dX10_most_92 rfl rfl ?_
          refine zs_istore_4_5 95 rfl dX10_most_93 rfl rfl ?_
          have hl := best 1 (by omega) (by omega) τ hF hR hB hO'
          rw [show amx (odA S (sR S r)) 1 = 0 from if_neg (Nat.lt_irrefl _)] at hl
          exact hl
        · (try rw [nI_leI (by omega) (by omega)] at h40)
          omega
      · have hil : i < sBw S 0 := by omega
        have inner : ∀ j, j ≤ sBw S 0 → ∀ τ, Fr mS σ τ → RM S τ → mTb τ q.1 (gOf (sR S r)) → OdM τ (sBw S 0) (odN S (gOf (sR S r)) q.1 0 (eW i) (q.1 / 2)) → (∀ v, v < sBw S 0 → gl τ 119 v = lN (fsum (fun w => odN S (gOf (sR S r)) q.1 0 (eW w) (q.1 / 2) v) (if v < j then i + 1 else i))) → At E mX10_most (d + 9) (qM σ (spMost S (nI r))) 52 [some (zr E 102), some (.int (nI r)), some (.int (nI 0)), some (.int (nI i)), some (.int (nI j))] [] τ := by
          refine z_up (fun j hj jh τ hF hR hB hM hO => ?_)
          by_cases hje : j = sBw S 0
          · rw [hje] at hO ⊢
            refine z_iload 54 dX10_most_52 rfl rfl ?_
            refine z_aload_n 55 dX10_most_54 rfl rfl ?_
            refine z_cVI0 58 (tX10_words (by assumption)) kX10_words dX10_most_55 rfl lX10_144 (by first | assumption | rfl) (Nat.le_of_ble_eq_true rfl) ?_
            rintro _ _ ⟨e1, e2⟩
            replace e1 := e1.symm
            replace e2 := e2.symm
            subst e1
            subst e2
            refine z_icmp_ge 84 61 dX10_most_58 (by decide) rfl (fun h58 => ?_) (fun h58 => ?_)
            · (try rw [nI_leI (by omega) (by omega)] at h58)
              refine zs_iinc_3_5_1 87 rfl dX10_most_84 rfl rfl ?_
              rw [nI_add]
              refine z_goto 35 dX10_most_87 rfl ?_
              exact oh (i + 1) (by omega) (by omega) _ τ hF hR hB (fun v hv => by
                have := hO v hv
                rw [if_pos hv] at this
                exact this)
            · (try rw [nI_leI (by omega) (by omega)] at h58)
              omega
          · have hjl : j < sBw S 0 := by omega
            have hOj := hO j hjl
            rw [if_neg (Nat.lt_irrefl j)] at hOj
            have hf : Fr (fun a b => a = 119) τ (sl τ 119 j (lN (fsum (fun w => odN S (gOf (sR S r)) q.1 0 (eW w) (q.1 / 2) j) i + odN S (gOf (sR S r)) q.1 0 (eW i) (q.1 / 2) j))) := Fr.rf.sl _ rfl
            refine z_iload 54 dX10_most_52 rfl rfl ?_
            refine z_aload_n 55 dX10_most_54 rfl rfl ?_
            refine z_cVI0 58 (tX10_words (by assumption)) kX10_words dX10_most_55 rfl lX10_144 (by first | assumption | rfl) (Nat.le_of_ble_eq_true rfl) ?_
            rintro _ _ ⟨e1, e2⟩
            replace e1 := e1.symm
            replace e2 := e2.symm
            subst e1
            subst e2
            refine z_icmp_ge 84 61 dX10_most_58 (by decide) rfl (fun h58 => ?_) (fun h58 => ?_)
            · (try rw [nI_leI (by omega) (by omega)] at h58)
              omega
            · (try rw [nI_leI (by omega) (by omega)] at h58)
              refine z_aload_n 62 dX10_most_61 rfl rfl ?_
              refine gX10_63 65 rfl dX10_most_62 rfl ?_
              refine z_iload 67 dX10_most_65 rfl rfl ?_
              refine z_dup2 68 dX10_most_67 rfl rfl rfl ?_
              refine z_laldn 69 dX10_most_68 rfl (by first | assumption | rfl) (by omega) ?_
              rw [hOj]
              refine z_aload_n 70 dX10_most_69 rfl rfl ?_
              refine gX10_56 73 rfl dX10_most_70 rfl ?_
              refine z_iload 75 dX10_most_73 rfl rfl ?_
              refine z_laldn 76 dX10_most_75 rfl (by first | assumption | rfl) (by omega) ?_
              rw [hM j hjl]
              refine z_ladd 77 dX10_most_76 rfl ?_
              rw [lN_add]
              refine z_lastn 78 dX10_most_77 rfl (by first | assumption | rfl) (by omega) ?_
              refine zs_iinc_4_5_1 81 rfl dX10_most_78 rfl rfl ?_
              rw [nI_add]
              refine z_goto 52 dX10_most_81 rfl ?_
              exact jh (j + 1) (by omega) (by omega) _ (hF.tr hf (fun _ _ h => h) (by unfold mS; intros; omega)) (hR.scr hW (hf.mono (by unfold mS; intros; omega))) (hB.fr hf (by omega) (by intros; omega)) (fun v hvv => (gl_s2 _ _ (by omega)).trans (hM v hvv)) (fun v hvv => by
                rw [gl_sl]
                by_cases hki : v = j
                · rw [if_pos ⟨rfl, hki⟩, hki, if_pos (Nat.lt_succ_self j)]; rfl
                · rw [if_neg (fun z => hki z.2), hO v hvv]
                  by_cases hvj : v < j
                  · rw [if_pos hvj, if_pos (by omega)]
                  · rw [if_neg hvj, if_neg (by omega)])
        refine z_iload_n 36 dX10_most_35 rfl rfl ?_
        refine z_aload_n 37 dX10_most_36 rfl rfl ?_
        refine z_cVI0 40 (tX10_words (by assumption)) kX10_words dX10_most_37 rfl lX10_144 (by first | assumption | rfl) (Nat.le_of_ble_eq_true rfl) ?_
        rintro _ _ ⟨e1, e2⟩
        replace e1 := e1.symm
        replace e2 := e2.symm
        subst e1
        subst e2
        refine z_icmp_ge 90 43 dX10_most_40 (by decide) rfl (fun h40 => ?_) (fun h40 => ?_)
        · (try rw [nI_leI (by omega) (by omega)] at h40)
          omega
        · (try rw [nI_leI (by omega) (by omega)] at h40)
          refine z_aload_n 44 dX10_most_43 rfl rfl ?_
          refine z_iconst 45 (v := nI 0) dX10_most_44 rfl rfl ?_
          refine z_iload_n 46 dX10_most_45 rfl rfl ?_
          refine z_cVV2 49 (tX10_setOdds hW hR hT hB (show 0 < 8 by omega) hil) kX10_setOdds dX10_most_46 rfl lX10_241 (by first | assumption | rfl) (Nat.le_of_ble_eq_true rfl) ?_
          rintro τ1 ⟨hF1, hX1, hO1⟩
          refine z_iconst 50 (v := nI 0) dX10_most_49 rfl rfl ?_
          refine zs_istore_4_5 52 rfl dX10_most_50 rfl rfl ?_
          exact inner 0 (Nat.zero_le _) τ1 (hF.tr hF1 (fun _ _ h => h) fGo_mS) hX1 (hB.fr hF1 (by omega) (by intros; omega)) hO1 (fun v hv => by rw [if_neg (Nat.not_lt_zero v), hF1.gl (by omega)]; exact hO v hv)
    have zero : ∀ i, i ≤ 8 → ∀ τ, Fr mS σ τ → RM S τ → mTb τ q.1 (gOf (sR S r)) → (∀ v, v < i → gl τ 119 v = lN 0) → At E mX10_most (d + 9) (qM σ (spMost S (nI r))) 14 [some (zr E 102), some (.int (nI r)), some (.int (nI 0)), some (.int (nI i)), none] [] τ := by
      refine z_up (fun i hi ih τ hF hR hB hO => ?_)
      by_cases hie : i = 8
      · rw [hie] at hO ⊢
        refine z_iload_n 15 dX10_most_14 rfl rfl ?_
        refine z_bipush 17 (v := nI 8) dX10_most_15 rfl rfl ?_
        refine z_icmp_ge 33 20 dX10_most_17 (by decide) rfl (fun h17 => ?_) (fun h17 => ?_)
        · (try rw [nI_leI (by omega) (by omega)] at h17)
          refine z_iconst 34 (v := nI 0) dX10_most_33 rfl rfl ?_
          refine zs_istore_n_3_5 35 rfl dX10_most_34 rfl rfl ?_
          exact outer 0 (Nat.zero_le _) _ τ hF hR hB (fun v hv => hO v (by omega))
        · (try rw [nI_leI (by omega) (by omega)] at h17)
          omega
      · have hf : Fr (fun a b => a = 119) τ (sl τ 119 i 0) := Fr.rf.sl _ rfl
        refine z_iload_n 15 dX10_most_14 rfl rfl ?_
        refine z_bipush 17 (v := nI 8) dX10_most_15 rfl rfl ?_
        refine z_icmp_ge 33 20 dX10_most_17 (by decide) rfl (fun h17 => ?_) (fun h17 => ?_)
        · (try rw [nI_leI (by omega) (by omega)] at h17)
          omega
        · (try rw [nI_leI (by omega) (by omega)] at h17)
          refine z_aload_n 21 dX10_most_20 rfl rfl ?_
          refine gX10_63 24 rfl dX10_most_21 rfl ?_
          refine z_iload_n 25 dX10_most_24 rfl rfl ?_
          refine z_lconst 26 (v := 0) dX10_most_25 rfl rfl ?_
          refine z_lastn 27 dX10_most_26 rfl (by first | assumption | rfl) (by omega) ?_
          refine zs_iinc_3_5_1 30 rfl dX10_most_27 rfl rfl ?_
          rw [nI_add]
          refine z_goto 14 dX10_most_30 rfl ?_
          exact ih (i + 1) (by omega) (by omega) _ (hF.tr hf (fun _ _ h => h) (by unfold mS; intros; omega)) (hR.scr hW (hf.mono (by unfold mS; intros; omega))) (hB.fr hf (by omega) (by intros; omega)) (fun v hvv => by
            rw [gl_sl]
            by_cases hki : v = i
            · rw [if_pos ⟨rfl, hki⟩]; rfl
            · rw [if_neg (fun z => hki z.2)]; exact hO v (by omega))
    refine z_aload_n 1 dX10_most_0 rfl rfl ?_
    refine z_iload_n 2 dX10_most_1 rfl rfl ?_
    refine z_cVI1 5 (rnd (D := d + 4)) kX10_askedRound dX10_most_2 rfl lX10_252 (by first | assumption | rfl) (Nat.le_of_ble_eq_true rfl) ?_
    rintro x1 τ1 hx
    obtain ⟨_, hx⟩ := hx.resolve_left (fun z => z.1 b1)
    obtain ⟨_, e1, hF1, hX1, hB1⟩ := hx.resolve_right (fun z => z.1 hD)
    subst e1
    refine zs_istore_n_2_5 6 rfl dX10_most_5 rfl rfl ?_
    refine z_iload_n 7 dX10_most_6 rfl rfl ?_
    refine z_if_ge 12 10 dX10_most_7 (by decide) rfl (fun h7 => ?_) (fun h7 => ?_)
    · refine z_iconst 13 (v := nI 0) dX10_most_12 rfl rfl ?_
      refine zs_istore_n_3_5 14 rfl dX10_most_13 rfl rfl ?_
      exact zero 0 (by omega) τ1 (hF1.mono fT_mS) hX1 hB1 (fun v hv => absurd hv (Nat.not_lt_zero v))
    · exact absurd (nI_pos' (by decide)) h7
  · rw [if_pos hD] at e0
    refine z_aload_n 1 dX10_most_0 rfl rfl ?_
    refine z_iload_n 2 dX10_most_1 rfl rfl ?_
    refine z_cVI1 5 (rnd (D := d + 4)) kX10_askedRound dX10_most_2 rfl lX10_252 (by first | assumption | rfl) (Nat.le_of_ble_eq_true rfl) ?_
    rintro x1 τ1 hx
    obtain ⟨_, hx⟩ := hx.resolve_left (fun z => z.1 b1)
    obtain ⟨_, e1, e2⟩ := hx.resolve_left (fun z => hD z.1)
    subst e1
    subst e2
    refine zs_istore_n_2_5 6 rfl dX10_most_5 rfl rfl ?_
    refine z_iload_n 7 dX10_most_6 rfl rfl ?_
    refine z_if_ge 12 10 dX10_most_7 (by decide) rfl (fun h7 => ?_) (fun h7 => ?_)
    · exact absurd h7 (by decide)
    · refine z_iload_n 11 dX10_most_10 rfl rfl ?_
      refine z_ri dX10_most_11 rfl ?_
      exact qmf hW e0 hpl hX Fr.rf
