/-! kept -/
def ktG (S : sS) (t : Nat → Nat) (n : Nat) (b : Nat → Nat) (k : Nat) : Nat := odN S t n k (eW (b k)) (n / 2) (b k)
theorem lN_neg {a : Nat} (ha : a < 2 ^ 63) : ¬ lN a ≤ (-1 : Int64) := fun h => absurd (Int64.le_trans ((pk_lLE (by decide) ha).mpr (Nat.zero_le a)) h) (by decide : ¬ lN 0 ≤ (-1 : Int64))
theorem ktG_le {S : sS} (hW : WF S) {n : Nat} {t b : Nat → Nat} (hT : TbOK S n t) {k : Nat} (hb : b k < sBw S 0) : ktG S t n b k ≤ 331776 := by
  have h1 := odN_le hW hT k hb (n / 2) hb
  have h2 := p24 (show n / 2 ≤ 4 by have := hT.1.2.1; omega)
  unfold ktG
  omega
/-- pads in a row -/
def PdOK (S : sS) (o : sRow) (n : Nat) : Prop := ∃ p, o = some p ∧ p.1 = n ∧ p.1 ≤ 40 ∧ ∀ k, k < n → p.2 k = nI (gOf o k) ∧ gOf o k < sBw S 0
theorem pd_of {S : sS} {p : Nat × (Nat → Int32)} {n : Nat} (h : p.1 = n) (h4 : p.1 ≤ 40) (hb8 : sBw S 0 ≤ 8) (hv : ∀ k, k < p.1 → inN (p.2 k) (sBw S 0)) : PdOK S (some p) n := ⟨p, rfl, h, h4, fun k hk => by
  obtain ⟨j, hj, e⟩ := inN_of (hv k (by omega))
  have e2 : gOf (some p) k = j := by
    show zx (p.2 k) = j
    rw [e, zx_nI (by omega)]
  rw [e2]
  exact ⟨e, hj⟩⟩
/-- the steps between any two that sit beside each other, both ways of counting -/
def AdjA (S : sS) (σ : zM) (n : Nat) (t : Nat → Nat) : Prop := ∀ i, i < n → StK S σ (t i) (t ((i + 1) % n))
theorem AdjA.fr {S : sS} {P : Nat → Nat → Prop} {σ τ : zM} {n : Nat} {t : Nat → Nat} (h : AdjA S σ n t) (hF : Fr P σ τ) (h1 : ∀ j, ¬ P 14 j) : AdjA S τ n t := fun i hi => (h i hi).fr hF h1
set_option maxRecDepth 20000 in
theorem tX5_keptBy {E : zE} {d : Nat} {σ : zM} {S : sS} {n b : Nat} {t : Nat → Nat} (hW : WF S) (hX : RX S σ) (hT : TbOK S n t) (hD : RdT σ n (sBw S 0) t) (hA : AdjA S σ n t) (hb : b < 6) (hP : PdOK S (sR S b) n) : Ret E mX5_keptBy (d + 2) [zr E 13, zr E (24 + 2 * b)] σ (qJ fun x τ => x = lN (fsum (ktG S t n (gOf (sR S b))) n) ∧ Fr fOd σ τ ∧ RX S τ) := by
  have h8 := hW.2.1.1
  have hb8 := bw_le hW (show 0 < 2 by omega)
  have n2 := hT.1.1
  have n8 := hT.1.2.1
  have hk := kd_r hb
  have hk1 := kd_r1 hb
  obtain ⟨p, hp, hpn, hp4, hpv⟩ := hP
  refine Ret.of [some (zr E 13), some (zr E (24 + 2 * b)), none, none, none] (by decide +kernel) (Nat.le_of_ble_eq_true rfl) rfl ?_
  have loop : ∀ i, i ≤ n → ∀ τ, Fr fOd σ τ → RX S τ → At E mX5_keptBy (d + 2) (qJ fun x τ => x = lN (fsum (ktG S t n (gOf (sR S b))) n) ∧ Fr fOd σ τ ∧ RX S τ) 5 [some (zr E 13), some (zr E (24 + 2 * b)), some (.long (lN (fsum (ktG S t n (gOf (sR S b))) i))), none, some (.int (nI i))] [] τ := by
    refine z_up (fun i hi ih τ hF hR => ?_)
    have hD' := hD.fr hF (by omega) (by omega) (by intros; omega)
    have hA' := hA.fr hF (by intros; omega)
    by_cases hie : i = n
    · rw [hie]
      refine z_iload 7 dX5_keptBy_5 rfl rfl ?_
      refine z_aload_n 8 dX5_keptBy_7 rfl rfl ?_
      refine gX5_43 11 rfl dX5_keptBy_8 rfl (by first | assumption | rfl) ?_
      rw [hD'.1]
      refine z_icmp_ge 41 14 dX5_keptBy_11 (by decide) rfl (fun h11 => ?_) (fun h11 => ?_)
      · (try rw [nI_leI (by omega) (by omega)] at h11)
        refine z_lload_n 42 dX5_keptBy_41 rfl rfl ?_
        refine z_rl dX5_keptBy_42 rfl ?_
        exact ⟨rfl, hF, hR⟩
      · (try rw [nI_leI (by omega) (by omega)] at h11)
        omega
    · have hil : i < n := by omega
      have hSb : Sh τ (24 + 2 * b) 40 (some p) := by
        rw [← hp]
        exact hR.1 b hb
      obtain ⟨v1, v2⟩ := hpv i hil
      have hgv : gi τ (24 + 2 * b + 1) i = nI (gOf (sR S b) i) := (hSb.2.2 i (by omega)).trans v1
      refine z_iload 7 dX5_keptBy_5 rfl rfl ?_
      refine z_aload_n 8 dX5_keptBy_7 rfl rfl ?_
      refine gX5_43 11 rfl dX5_keptBy_8 rfl (by first | assumption | rfl) ?_
      rw [hD'.1]
      refine z_icmp_ge 41 14 dX5_keptBy_11 (by decide) rfl (fun h11 => ?_) (fun h11 => ?_)
      · (try rw [nI_leI (by omega) (by omega)] at h11)
        omega
      · (try rw [nI_leI (by omega) (by omega)] at h11)
        refine z_lload_n 15 dX5_keptBy_14 rfl rfl ?_
        refine z_aload_n 16 dX5_keptBy_15 rfl rfl ?_
        refine z_iload 18 dX5_keptBy_16 rfl rfl ?_
        refine z_aload_n 19 dX5_keptBy_18 rfl rfl ?_
        refine z_iload 21 dX5_keptBy_19 rfl rfl ?_
        refine z_cVI1 24 (tX7_get hk hk1 hSb.2.1 hp4 (show i < p.1 by omega)) kX7_get dX5_keptBy_21 rfl lX5_44 (by first | assumption | rfl) (Nat.le_of_ble_eq_true rfl) ?_
        rintro _ _ ⟨e1, e2⟩
        replace e1 := e1.symm
        replace e2 := e2.symm
        subst e1
        subst e2
        rw [hgv]
        refine z_aload_n 25 dX5_keptBy_24 rfl rfl ?_
        refine z_iload 27 dX5_keptBy_25 rfl rfl ?_
        refine z_cVI1 30 (tX7_get hk hk1 hSb.2.1 hp4 (show i < p.1 by omega)) kX7_get dX5_keptBy_27 rfl lX5_44 (by first | assumption | rfl) (Nat.le_of_ble_eq_true rfl) ?_
        rintro _ _ ⟨e1, e2⟩
        replace e1 := e1.symm
        replace e2 := e2.symm
        subst e1
        subst e2
        rw [hgv]
        refine z_cVJ3 33 (tX5_reach hW hT hD' (show i < 8 by omega) (adj_of (by omega) hA' i) v2 v2) kX5_reach dX5_keptBy_30 rfl lX5_63 (by first | assumption | rfl) (Nat.le_of_ble_eq_true rfl) ?_
        rintro _ τ1 ⟨e1, hF1⟩
        subst e1
        have hX1 : RX S τ1 := hR.scr hW (hF1.mono fOd_xS)
        refine z_ladd 34 dX5_keptBy_33 rfl ?_
        rw [lN_add]
        refine zs_lstore_n_2_5 35 rfl dX5_keptBy_34 rfl rfl ?_
        refine zs_iinc_4_5_1 38 rfl dX5_keptBy_35 rfl rfl ?_
        rw [nI_add]
        refine z_goto 5 dX5_keptBy_38 rfl ?_
        exact ih (i + 1) (by omega) (by omega) τ1 (hF.tr hF1 (fun _ _ h => h) (fun _ _ h => h)) hX1
  refine z_lconst 1 (v := 0) dX5_keptBy_0 rfl rfl ?_
  refine zs_lstore_n_2_5 2 rfl dX5_keptBy_1 rfl rfl ?_
  refine z_iconst 3 (v := nI 0) dX5_keptBy_2 rfl rfl ?_
  refine zs_istore_4_5 5 rfl dX5_keptBy_3 rfl rfl ?_
  exact loop 0 (Nat.zero_le _) σ Fr.rf hX
def ktH (S : sS) (o b : sRow) : Nat → Nat := ktG S (gOf o) (sSz o) (gOf b)
def ktR (S : sS) (o b : sRow) : Int32 × sS := sTell S (fsum (ktH S o b) (sSz o)) (whR o) (nI (amx (ktH S o b) (sSz o)))
def spKept (S : sS) (r b : Int32) : Int32 × sS := if ¬ (inN r 6 ∧ inN b 6) then (-1, S) else if ¬ sPd S (sR S (zx r)) (sR S (zx b)) = 0 then sFd S (sPd S (sR S (zx r)) (sR S (zx b))) else ktR S (sR S (zx r)) (sR S (zx b))
def bsL (f : Nat → Nat) (i : Nat) : Int64 := if i = 0 then -1 else lN (f (amx f i))
set_option maxRecDepth 20000 in
theorem tX9_kept {E : zE} {d : Nat} {σ : zM} {S : sS} {r b : Int32} (hW : WF S) (hX : RX S σ) : Ret E mX9_kept (d + 5) [zr E 0, .int r, .int b] σ (qX σ (spKept S r b)) := by
  have h8 := hW.2.1.1
  have hb8 := bw_le hW (show 0 < 2 by omega)
  by_cases hA : ¬ (inN r 6 ∧ inN b 6)
  · refine Ret.of [some (zr E 0), some (.int r), some (.int b), none, none, none, none, none, none, none, none, none] (by decide +kernel) (Nat.le_of_ble_eq_true rfl) rfl ?_
    refine z_iload_n 1 dX9_kept_0 rfl rfl ?_
    refine z_cSI1 4 (tX9_isRow) kX9_isRow dX9_kept_1 rfl lX9_83 (Nat.le_of_ble_eq_true rfl) ?_
    rintro _ _ ⟨e1, e2⟩
    replace e1 := e1.symm
    replace e2 := e2.symm
    subst e1
    subst e2
    refine z_ifb_eq 14 7 dX9_kept_4 (by decide) rfl (fun h4 => ?_) (fun h4 => ?_)
    · refine z_iconst 15 (v := (-1)) dX9_kept_14 rfl rfl ?_
      refine z_ri dX9_kept_15 rfl ?_
      exact qx0 (if_pos hA) hX Fr.rf
    · refine z_iload_n 8 dX9_kept_7 rfl rfl ?_
      refine z_cSI1 11 (tX9_isRow) kX9_isRow dX9_kept_8 rfl lX9_83 (Nat.le_of_ble_eq_true rfl) ?_
      rintro _ _ ⟨e1, e2⟩
      replace e1 := e1.symm
      replace e2 := e2.symm
      subst e1
      subst e2
      refine z_ifb_ne 16 14 dX9_kept_11 (by decide) rfl (fun h11 => ?_) (fun h11 => ?_)
      · exact absurd ⟨h4, h11⟩ hA
      · refine z_iconst 15 (v := (-1)) dX9_kept_14 rfl rfl ?_
        refine z_ri dX9_kept_15 rfl ?_
        exact qx0 (if_pos hA) hX Fr.rf
  have e0 : spKept S r b = _ := if_neg hA
  obtain ⟨b1, b2⟩ := Classical.not_not.mp hA
  obtain ⟨r, hr, rfl⟩ := inN_of b1
  obtain ⟨b, hb, rfl⟩ := inN_of b2
  have b1 : inN (nI r) 6 := inN_nI hr (by omega)
  have b2 : inN (nI b) 6 := inN_nI hb (by omega)
  rw [zx_nI (by omega), zx_nI (by omega)] at e0
  have hpl := sPd_lt S (sR S r) (sR S b)
  have hk := kd_r hb
  have hk1 := kd_r1 hb
  refine Ret.of [some (zr E 0), some (.int (nI r)), some (.int (nI b)), none, none, none, none, none, none, none, none, none] (by decide +kernel) (Nat.le_of_ble_eq_true rfl) rfl ?_
  by_cases hD : sPd S (sR S r) (sR S b) = 0
  · rw [if_neg (fun z => z hD)] at e0
    obtain ⟨q0, p0, hq0, hp0, hpq, hTf, hpw⟩ := sPd0 hD
    obtain ⟨q, hq, hT, hqg⟩ := sTf0 hTf
    have hsz : sSz (sR S r) = q.1 := by rw [hq]; rfl
    have hqq : q0.1 = q.1 := by rw [hq0] at hq; rw [Option.some.inj hq]
    have hp4 : p0.1 ≤ 40 := by
      have h1 := hX.1 b hb
      rw [show S.1 b = sR S b from rfl, hp0] at h1
      exact h1.1
    have hP : PdOK S (sR S b) q.1 := by rw [hp0]; exact pd_of (by omega) hp4 hb8 hpw
    obtain ⟨p, hp, hpn, hp4, hpv⟩ := hP
    have n2 := hT.1.1
    have n8 := hT.1.2.1
    have ef : ktH S (sR S r) (sR S b) = ktG S (gOf (sR S r)) q.1 (gOf (sR S b)) := by unfold ktH; rw [hsz]
    unfold ktR whR at e0
    rw [hsz] at e0
    have hH : ∀ k, k < q.1 → ktH S (sR S r) (sR S b) k ≤ 331776 := fun k hk => by rw [ef]; exact ktG_le hW hT (hpv k hk).2
    have hS : ∀ i, i ≤ q.1 → fsum (ktH S (sR S r) (sR S b)) i ≤ 331776 * i := fun i hi => fsum_bd i (fun k hk => hH k (by omega))
    have o2 := p24 (show q.1 / 2 ≤ 4 by omega)
    have loop : ∀ i, i ≤ q.1 → ∀ y τ, Fr xS σ τ → RX S τ → RdT τ q.1 (sBw S 0) (gOf (sR S r)) → AdjA S τ q.1 (gOf (sR S r)) → At E mX9_kept (d + 5) (qX σ (spKept S (nI r) (nI b))) 55 [some (zr E 0), some (.int (nI r)), some (.int (nI b)), some (.int (nI 0)), some (.long (lN (fsum (ktH S (sR S r) (sR S b)) i))), none, some (.long (bsL (ktH S (sR S r) (sR S b)) i)), none, some (.int (nI (amx (ktH S (sR S r) (sR S b)) i))), some (.int (nI i)), y, none] [] τ := by
      refine z_up (fun i hi ih y τ hF hR hD hA => ?_)
      have hSi := hS i hi
      by_cases hie : i = q.1
      · rw [hie] at hSi ⊢
        refine z_iload 57 dX9_kept_55 rfl rfl ?_
        refine z_aload_n 58 dX9_kept_57 rfl rfl ?_
        refine gX9_60 61 rfl dX9_kept_58 rfl ?_
        refine gX9_269 64 rfl dX9_kept_61 rfl (by first | assumption | rfl) ?_
        rw [hD.1]
        refine z_icmp_ge 129 67 dX9_kept_64 (by decide) rfl (fun h64 => ?_) (fun h64 => ?_)
        · (try rw [nI_leI (by omega) (by omega)] at h64)
          refine z_aload_n 130 dX9_kept_129 rfl rfl ?_
          refine gX9_39 133 rfl dX9_kept_130 rfl ?_
          refine z_lload 135 dX9_kept_133 rfl rfl ?_
          refine z_aload_n 136 dX9_kept_135 rfl rfl ?_
          refine gX9_60 139 rfl dX9_kept_136 rfl ?_
          refine z_cVJ0 142 (tX5_whole hD.1 n8) kX5_whole dX9_kept_139 rfl lX9_243 (by first | assumption | rfl) (Nat.le_of_ble_eq_true rfl) ?_
          rintro _ _ ⟨e1, e2⟩
          replace e1 := e1.symm
          replace e2 := e2.symm
          subst e1
          subst e2
          refine z_cVI2 145 (tX0_tell (by omega) (by omega) (wh_pos _)) kX0_tell dX9_kept_142 rfl lX9_246 (by first | assumption | rfl) (Nat.le_of_ble_eq_true rfl) ?_
          rintro _ _ ⟨e1, e2⟩
          replace e1 := e1.symm
          replace e2 := e2.symm
          subst e1
          subst e2
          refine z_pop 146 dX9_kept_145 rfl rfl ?_
          refine z_iload 148 dX9_kept_146 rfl rfl ?_
          refine z_ri dX9_kept_148 rfl ?_
          exact qxt hW e0 hR (hF.mono xS_all)
        · (try rw [nI_leI (by omega) (by omega)] at h64)
          omega
      · have hil : i < q.1 := by omega
        have hSb : Sh τ (24 + 2 * b) 40 (some p) := by
          rw [← hp]
          exact hR.1 b hb
        obtain ⟨v1, v2⟩ := hpv i hil
        have hgv : gi τ (24 + 2 * b + 1) i = nI (gOf (sR S b) i) := (hSb.2.2 i (by omega)).trans v1
        have hHi := hH i hil
        have ei : odN S (gOf (sR S r)) q.1 i (eW (gOf (sR S b) i)) (q.1 / 2) (gOf (sR S b) i) = ktH S (sR S r) (sR S b) i := by rw [ef]; rfl
        refine z_iload 57 dX9_kept_55 rfl rfl ?_
        refine z_aload_n 58 dX9_kept_57 rfl rfl ?_
        refine gX9_60 61 rfl dX9_kept_58 rfl ?_
        refine gX9_269 64 rfl dX9_kept_61 rfl (by first | assumption | rfl) ?_
        rw [hD.1]
        refine z_icmp_ge 129 67 dX9_kept_64 (by decide) rfl (fun h64 => ?_) (fun h64 => ?_)
        · (try rw [nI_leI (by omega) (by omega)] at h64)
          omega
        · (try rw [nI_leI (by omega) (by omega)] at h64)
          refine z_aload_n 68 dX9_kept_67 rfl rfl ?_
          refine gX9_60 71 rfl dX9_kept_68 rfl ?_
          refine z_iload 73 dX9_kept_71 rfl rfl ?_
          refine z_aload_n 74 dX9_kept_73 rfl rfl ?_
          refine gX9_11 77 rfl dX9_kept_74 rfl ?_
          refine z_iload_n 78 dX9_kept_77 rfl rfl ?_
          refine z_aald1 79 dX9_kept_78 rfl (by omega) ?_
          refine z_iload 81 dX9_kept_79 rfl rfl ?_
          refine z_cVI1 84 (tX7_get hk hk1 hSb.2.1 hp4 (show i < p.1 by omega)) kX7_get dX9_kept_81 rfl lX9_98 (by first | assumption | rfl) (Nat.le_of_ble_eq_true rfl) ?_
          rintro _ _ ⟨e1, e2⟩
          replace e1 := e1.symm
          replace e2 := e2.symm
          subst e1
          subst e2
          rw [hgv]
          refine z_aload_n 85 dX9_kept_84 rfl rfl ?_
          refine gX9_11 88 rfl dX9_kept_85 rfl ?_
          refine z_iload_n 89 dX9_kept_88 rfl rfl ?_
          refine z_aald1 90 dX9_kept_89 rfl (by omega) ?_
          refine z_iload 92 dX9_kept_90 rfl rfl ?_
          refine z_cVI1 95 (tX7_get hk hk1 hSb.2.1 hp4 (show i < p.1 by omega)) kX7_get dX9_kept_92 rfl lX9_98 (by first | assumption | rfl) (Nat.le_of_ble_eq_true rfl) ?_
          rintro _ _ ⟨e1, e2⟩
          replace e1 := e1.symm
          replace e2 := e2.symm
          subst e1
          subst e2
          rw [hgv]
          refine z_cVJ3 98 (tX5_reach hW hT hD (show i < 8 by omega) (adj_of (by omega) hA i) v2 v2) kX5_reach dX9_kept_95 rfl lX9_239 (by first | assumption | rfl) (Nat.le_of_ble_eq_true rfl) ?_
          rintro _ τ1 ⟨e1, hF1⟩
          subst e1
          have hX1 : RX S τ1 := hR.scr hW (hF1.mono fOd_xS)
          have hF2 : Fr xS σ τ1 := hF.tr hF1 (fun _ _ h => h) fOd_xS
          have hD1 := hD.fr hF1 (by omega) (by omega) (by intros; omega)
          have hA1 := hA.fr hF1 (by intros; omega)
          have hih := ih (i + 1) (by omega) (by omega) (some (.long (lN (ktH S (sR S r) (sR S b) i)))) τ1 hF2 hX1 hD1 hA1
          rw [show bsL (ktH S (sR S r) (sR S b)) (i + 1) = lN (ktH S (sR S r) (sR S b) (amx (ktH S (sR S r) (sR S b)) (i + 1))) from if_neg (Nat.succ_ne_zero i)] at hih
          rw [ei]
          refine zs_lstore_10_12 100 rfl dX9_kept_98 rfl rfl ?_
          refine z_lload 102 dX9_kept_100 rfl rfl ?_
          refine z_lload 104 dX9_kept_102 rfl rfl ?_
          refine z_ladd 105 dX9_kept_104 rfl ?_
          rw [lN_add]
          refine zs_lstore_4_12 107 rfl dX9_kept_105 rfl rfl ?_
          refine z_lload 109 dX9_kept_107 rfl rfl ?_
          refine z_lload 111 dX9_kept_109 rfl rfl ?_
          refine z_lcmp 112 dX9_kept_111 rfl ?_
          refine z_if_le 123 115 dX9_kept_112 (by decide) rfl (fun h112 => ?_) (fun h112 => ?_)
          · rw [lg_cmp_le] at h112
            refine zs_iinc_9_12_1 126 rfl dX9_kept_123 rfl rfl ?_
            rw [nI_add]
            refine z_goto 55 dX9_kept_126 rfl ?_
            by_cases hi0 : i = 0
            · subst hi0
              rw [show bsL (ktH S (sR S r) (sR S b)) 0 = -1 from rfl] at h112
              rw [show amx (ktH S (sR S r) (sR S b)) (0 + 1) = 0 from if_neg (Nat.lt_irrefl _)] at hih
              first
                | exact absurd h112 (lN_neg (by omega))
                | exact hih
            · rw [show bsL (ktH S (sR S r) (sR S b)) i = lN (ktH S (sR S r) (sR S b) (amx (ktH S (sR S r) (sR S b)) i)) from if_neg hi0] at h112
              try rw [show bsL (ktH S (sR S r) (sR S b)) i = lN (ktH S (sR S r) (sR S b) (amx (ktH S (sR S r) (sR S b)) i)) from if_neg hi0]
              have hHa := hH _ (Nat.lt_of_lt_of_le (amx_spec (ktH S (sR S r) (sR S b)) i (by omega)).1 hi)
              rw [pk_lLE (by omega) (by omega)] at h112
              first
                | (rw [show amx (ktH S (sR S r) (sR S b)) (i + 1) = amx (ktH S (sR S r) (sR S b)) i from if_neg (by omega)] at hih; exact hih)
                | (rw [show amx (ktH S (sR S r) (sR S b)) (i + 1) = i from if_pos (by omega)] at hih; exact hih)
          · rw [lg_cmp_le] at h112
            refine z_lload 117 dX9_kept_115 rfl rfl ?_
            refine zs_lstore_6_12 119 rfl dX9_kept_117 rfl rfl ?_
            refine z_iload 121 dX9_kept_119 rfl rfl ?_
            refine zs_istore_8_12 123 rfl dX9_kept_121 rfl rfl ?_
            refine zs_iinc_9_12_1 126 rfl dX9_kept_123 rfl rfl ?_
            rw [nI_add]
            refine z_goto 55 dX9_kept_126 rfl ?_
            by_cases hi0 : i = 0
            · subst hi0
              rw [show bsL (ktH S (sR S r) (sR S b)) 0 = -1 from rfl] at h112
              rw [show amx (ktH S (sR S r) (sR S b)) (0 + 1) = 0 from if_neg (Nat.lt_irrefl _)] at hih
              first
                | exact absurd h112 (lN_neg (by omega))
                | exact hih
            · rw [show bsL (ktH S (sR S r) (sR S b)) i = lN (ktH S (sR S r) (sR S b) (amx (ktH S (sR S r) (sR S b)) i)) from if_neg hi0] at h112
              try rw [show bsL (ktH S (sR S r) (sR S b)) i = lN (ktH S (sR S r) (sR S b) (amx (ktH S (sR S r) (sR S b)) i)) from if_neg hi0]
              have hHa := hH _ (Nat.lt_of_lt_of_le (amx_spec (ktH S (sR S r) (sR S b)) i (by omega)).1 hi)
              rw [pk_lLE (by omega) (by omega)] at h112
              first
                | (rw [show amx (ktH S (sR S r) (sR S b)) (i + 1) = amx (ktH S (sR S r) (sR S b)) i from if_neg (by omega)] at hih; exact hih)
                | (rw [show amx (ktH S (sR S r) (sR S b)) (i + 1) = i from if_pos (by omega)] at hih; exact hih)
    refine z_iload_n 1 dX9_kept_0 rfl rfl ?_
    refine z_cSI1 4 (tX9_isRow) kX9_isRow dX9_kept_1 rfl lX9_83 (Nat.le_of_ble_eq_true rfl) ?_
    rintro _ _ ⟨e1, e2⟩
    replace e1 := e1.symm
    replace e2 := e2.symm
    subst e1
    subst e2
    refine z_ifb_eq 14 7 dX9_kept_4 (by decide) rfl (fun h4 => ?_) (fun h4 => ?_)
    · exact absurd b1 h4
    · refine z_iload_n 8 dX9_kept_7 rfl rfl ?_
      refine z_cSI1 11 (tX9_isRow) kX9_isRow dX9_kept_8 rfl lX9_83 (Nat.le_of_ble_eq_true rfl) ?_
      rintro _ _ ⟨e1, e2⟩
      replace e1 := e1.symm
      replace e2 := e2.symm
      subst e1
      subst e2
      refine z_ifb_ne 16 14 dX9_kept_11 (by decide) rfl (fun h11 => ?_) (fun h11 => ?_)
      · refine z_aload_n 17 dX9_kept_16 rfl rfl ?_
        refine z_iload_n 18 dX9_kept_17 rfl rfl ?_
        refine z_iload_n 19 dX9_kept_18 rfl rfl ?_
        refine z_cVI2 22 (tX9_padsFault hW hX hr hb) kX9_padsFault dX9_kept_19 rfl lX9_264 (by first | assumption | rfl) (Nat.le_of_ble_eq_true rfl) ?_
        rintro _ _ ⟨e1, e2⟩
        replace e1 := e1.symm
        replace e2 := e2.symm
        subst e1
        subst e2
        rw [hD]
        refine zs_istore_n_3_12 23 rfl dX9_kept_22 rfl rfl ?_
        refine z_iload_n 24 dX9_kept_23 rfl rfl ?_
        refine z_if_eq 36 27 dX9_kept_24 (by decide) rfl (fun h24 => ?_) (fun h24 => ?_)
        · (try rw [nI_eq0 (by omega)] at h24)
          refine z_aload_n 37 dX9_kept_36 rfl rfl ?_
          refine z_iload_n 38 dX9_kept_37 rfl rfl ?_
          refine z_cVV1 41 (tX9_seatTable (t := gOf (sR S r)) hW hX hr hq hT hqg) kX9_seatTable dX9_kept_38 rfl lX9_236 (by first | assumption | rfl) (Nat.le_of_ble_eq_true rfl) ?_
          rintro τ1 ⟨hF1, hX1, hD1, hS1⟩
          refine z_lconst 42 (v := 0) dX9_kept_41 rfl rfl ?_
          refine zs_lstore_4_12 44 rfl dX9_kept_42 rfl rfl ?_
          refine z_ldc2 47 dX9_kept_44 rfl qX9_267 ?_
          refine zs_lstore_6_12 49 rfl dX9_kept_47 rfl rfl ?_
          refine z_iconst 50 (v := nI 0) dX9_kept_49 rfl rfl ?_
          refine zs_istore_8_12 52 rfl dX9_kept_50 rfl rfl ?_
          refine z_iconst 53 (v := nI 0) dX9_kept_52 rfl rfl ?_
          refine zs_istore_9_12 55 rfl dX9_kept_53 rfl rfl ?_
          exact loop 0 (Nat.zero_le _) none τ1 (hF1.mono fSt_xS) hX1 hD1 hS1
        · (try rw [nI_eq0 (by omega)] at h24)
          exact absurd rfl h24
      · exact absurd b2 h11
  · rw [if_pos hD] at e0
    refine z_iload_n 1 dX9_kept_0 rfl rfl ?_
    refine z_cSI1 4 (tX9_isRow) kX9_isRow dX9_kept_1 rfl lX9_83 (Nat.le_of_ble_eq_true rfl) ?_
    rintro _ _ ⟨e1, e2⟩
    replace e1 := e1.symm
    replace e2 := e2.symm
    subst e1
    subst e2
    refine z_ifb_eq 14 7 dX9_kept_4 (by decide) rfl (fun h4 => ?_) (fun h4 => ?_)
    · exact absurd b1 h4
    · refine z_iload_n 8 dX9_kept_7 rfl rfl ?_
      refine z_cSI1 11 (tX9_isRow) kX9_isRow dX9_kept_8 rfl lX9_83 (Nat.le_of_ble_eq_true rfl) ?_
      rintro _ _ ⟨e1, e2⟩
      replace e1 := e1.symm
      replace e2 := e2.symm
      subst e1
      subst e2
      refine z_ifb_ne 16 14 dX9_kept_11 (by decide) rfl (fun h11 => ?_) (fun h11 => ?_)
      · refine z_aload_n 17 dX9_kept_16 rfl rfl ?_
        refine z_iload_n 18 dX9_kept_17 rfl rfl ?_
        refine z_iload_n 19 dX9_kept_18 rfl rfl ?_
        refine z_cVI2 22 (tX9_padsFault hW hX hr hb) kX9_padsFault dX9_kept_19 rfl lX9_264 (by first | assumption | rfl) (Nat.le_of_ble_eq_true rfl) ?_
        rintro _ _ ⟨e1, e2⟩
        replace e1 := e1.symm
        replace e2 := e2.symm
        subst e1
        subst e2
        refine zs_istore_n_3_12 23 rfl dX9_kept_22 rfl rfl ?_
        refine z_iload_n 24 dX9_kept_23 rfl rfl ?_
        refine z_if_eq 36 27 dX9_kept_24 (by decide) rfl (fun h24 => ?_) (fun h24 => ?_)
        · (try rw [nI_eq0 (by omega)] at h24)
          exact absurd h24 hD
        · (try rw [nI_eq0 (by omega)] at h24)
          refine z_aload_n 28 dX9_kept_27 rfl rfl ?_
          refine gX9_39 31 rfl dX9_kept_28 rfl ?_
          refine z_iload_n 32 dX9_kept_31 rfl rfl ?_
          refine z_cVI1 35 (tX0_found (by omega) hpl) kX0_found dX9_kept_32 rfl lX9_87 (by first | assumption | rfl) (Nat.le_of_ble_eq_true rfl) ?_
          rintro _ _ ⟨e1, e2⟩
          replace e1 := e1.symm
          replace e2 := e2.symm
          subst e1
          subst e2
          refine z_ri dX9_kept_35 rfl ?_
          exact qxf hW e0 hpl hX Fr.rf
      · exact absurd b2 h11
/-! of the reference -/
abbrev fKp (a j : Nat) : Prop := a = 102 ∧ (j = 16 ∨ j = 18 ∨ j = 26) ∨ 112 ≤ a ∧ a ≤ 115 ∨ a = 117 ∨ a = 118
theorem fKp_mS : ∀ a j, fKp a j → mS a j := by unfold mS; intros; omega
set_option maxRecDepth 20000 in
theorem tX10_keptOf {E : zE} {d : Nat} {σ : zM} {S : sS} {n b : Nat} {t : Nat → Nat} (hW : WF S) (hX : RM S σ) (hT : TbOK S n t) (hB : mTb σ n t) (hb : b < 6) (hP : PdOK S (sR S b) n) : Ret E mX10_keptOf (d + 9) [zr E 102, .int (nI b)] σ (qJ fun x τ => x = lN (fsum (ktG S t n (gOf (sR S b))) n) ∧ Fr fKp σ τ ∧ RM S τ ∧ gi τ 102 26 = nI (amx (ktG S t n (gOf (sR S b))) n)) := by
  have h8 := hW.2.1.1
  have hb8 := bw_le hW (show 0 < 2 by omega)
  have n2 := hT.1.1
  have n8 := hT.1.2.1
  obtain ⟨p, hp, hpn, hp4, hpv⟩ := hP
  have hH : ∀ k, k < n → ktG S t n (gOf (sR S b)) k ≤ 331776 := fun k hk => ktG_le hW hT (hpv k hk).2
  refine Ret.of [some (zr E 102), some (.int (nI b)), none, none, none, none, none, none] (by decide +kernel) (Nat.le_of_ble_eq_true rfl) rfl ?_
  have loop : ∀ i, i ≤ n → ∀ y τ, Fr fKp σ τ → RM S τ → (0 < i → gi τ 102 26 = nI (amx (ktG S t n (gOf (sR S b))) i)) → At E mX10_keptOf (d + 9) (qJ fun x τ => x = lN (fsum (ktG S t n (gOf (sR S b))) n) ∧ Fr fKp σ τ ∧ RM S τ ∧ gi τ 102 26 = nI (amx (ktG S t n (gOf (sR S b))) n)) 10 [some (zr E 102), some (.int (nI b)), some (.long (lN (fsum (ktG S t n (gOf (sR S b))) i))), none, some (.long (bsL (ktG S t n (gOf (sR S b))) i)), none, some (.int (nI i)), y] [] τ := by
    refine z_up (fun i hi ih y τ hF hR hv => ?_)
    have hB' := hB.fr hF (by omega) (by intros; omega)
    by_cases hie : i = n
    · rw [hie] at hv ⊢
      refine z_iload 12 dX10_keptOf_10 rfl rfl ?_
      refine z_aload_n 13 dX10_keptOf_12 rfl rfl ?_
      refine gX10_227 16 rfl dX10_keptOf_13 rfl ?_
      rw [hB'.1]
      refine z_icmp_ge 105 19 dX10_keptOf_16 (by decide) rfl (fun h16 => ?_) (fun h16 => ?_)
      · (try rw [nI_leI (by omega) (by omega)] at h16)
        refine z_lload_n 106 dX10_keptOf_105 rfl rfl ?_
        refine z_rl dX10_keptOf_106 rfl ?_
        exact ⟨rfl, hF, hR, hv (by omega)⟩
      · (try rw [nI_leI (by omega) (by omega)] at h16)
        omega
    · have hil : i < n := by omega
      have hSb : mSh τ 104 105 b 40 (some p) := by
        rw [← hp]
        exact hR.1 b hb
      obtain ⟨v1, v2⟩ := hpv i hil
      have hgv : gi τ 105 (40 * b + i) = nI (gOf (sR S b) i) := (hSb.2.2 i (by omega)).trans v1
      have hHi := hH i hil
      have go : ∀ τ x, Fr fKp σ τ → RM S τ → gl τ 117 (gOf (sR S b) i) = lN (ktG S t n (gOf (sR S b)) i) → x = nI (amx (ktG S t n (gOf (sR S b))) (i + 1)) → At E mX10_keptOf (d + 9) (qJ fun x τ => x = lN (fsum (ktG S t n (gOf (sR S b))) n) ∧ Fr fKp σ τ ∧ RM S τ ∧ gi τ 102 26 = nI (amx (ktG S t n (gOf (sR S b))) n)) 69 [some (zr E 102), some (.int (nI b)), some (.long (lN (fsum (ktG S t n (gOf (sR S b))) (i + 1)))), none, some (.long (bsL (ktG S t n (gOf (sR S b))) i)), none, some (.int (nI i)), some (.int (nI (gOf (sR S b) i)))] [.int x, zr E 102] τ := by
        intro τ x hF hR hO ex
        subst ex
        have hf : Fr (fun a j => a = 102 ∧ j = 26) τ (si τ 102 26 (nI (amx (ktG S t n (gOf (sR S b))) (i + 1)))) := Fr.rf.si _ ⟨rfl, rfl⟩
        have hih := ih (i + 1) (by omega) (by omega) (some (.int (nI (gOf (sR S b) i)))) _ (hF.tr hf (fun _ _ h => h) (by intros; omega)) (hR.scr hW (hf.mono (by unfold mS; intros; omega))) (fun _ => gi_s1 _ _ _ _)
        rw [show bsL (ktG S t n (gOf (sR S b))) (i + 1) = lN (ktG S t n (gOf (sR S b)) (amx (ktG S t n (gOf (sR S b))) (i + 1))) from if_neg (Nat.succ_ne_zero i)] at hih
        have hO' : gl (si τ 102 26 (nI (amx (ktG S t n (gOf (sR S b))) (i + 1)))) 117 (gOf (sR S b) i) = lN (ktG S t n (gOf (sR S b)) i) := hO
        refine pX10_261 72 rfl dX10_keptOf_69 rfl ?_
        refine z_aload_n 73 dX10_keptOf_72 rfl rfl ?_
        refine gX10_56 76 rfl dX10_keptOf_73 rfl ?_
        refine z_iload 78 dX10_keptOf_76 rfl rfl ?_
        refine z_laldn 79 dX10_keptOf_78 rfl (by first | assumption | rfl) (by omega) ?_
        rw [hO']
        refine z_lload 81 dX10_keptOf_79 rfl rfl ?_
        refine z_lcmp 82 dX10_keptOf_81 rfl ?_
        refine z_if_le 95 85 dX10_keptOf_82 (by decide) rfl (fun h82 => ?_) (fun h82 => ?_)
        · rw [lg_cmp_le] at h82
          refine z_lload 97 dX10_keptOf_95 rfl rfl ?_
          refine zs_lstore_4_8 99 rfl dX10_keptOf_97 rfl rfl ?_
          refine zs_iinc_6_8_1 102 rfl dX10_keptOf_99 rfl rfl ?_
          rw [nI_add]
          refine z_goto 10 dX10_keptOf_102 rfl ?_
          by_cases hi0 : i = 0
          · subst hi0
            rw [show bsL (ktG S t n (gOf (sR S b))) 0 = -1 from rfl] at h82
            rw [show amx (ktG S t n (gOf (sR S b))) (0 + 1) = 0 from if_neg (Nat.lt_irrefl _)] at hih ⊢
            first
              | exact absurd h82 (lN_neg (by omega))
              | exact hih
          · rw [show bsL (ktG S t n (gOf (sR S b))) i = lN (ktG S t n (gOf (sR S b)) (amx (ktG S t n (gOf (sR S b))) i)) from if_neg hi0] at h82
            try rw [show bsL (ktG S t n (gOf (sR S b))) i = lN (ktG S t n (gOf (sR S b)) (amx (ktG S t n (gOf (sR S b))) i)) from if_neg hi0]
            have hHa := hH _ (Nat.lt_of_lt_of_le (amx_spec (ktG S t n (gOf (sR S b))) i (by omega)).1 hi)
            rw [pk_lLE (by omega) (by omega)] at h82
            first
              | (rw [show amx (ktG S t n (gOf (sR S b))) (i + 1) = amx (ktG S t n (gOf (sR S b))) i from if_neg (by omega)] at hih ⊢; exact hih)
              | (rw [show amx (ktG S t n (gOf (sR S b))) (i + 1) = i from if_pos (by omega)] at hih ⊢; exact hih)
        · rw [lg_cmp_le] at h82
          refine z_aload_n 86 dX10_keptOf_85 rfl rfl ?_
          refine gX10_56 89 rfl dX10_keptOf_86 rfl ?_
          refine z_iload 91 dX10_keptOf_89 rfl rfl ?_
          refine z_laldn 92 dX10_keptOf_91 rfl (by first | assumption | rfl) (by omega) ?_
          rw [hO']
          refine z_goto 97 dX10_keptOf_92 rfl ?_
          refine zs_lstore_4_8 99 rfl dX10_keptOf_97 rfl rfl ?_
          refine zs_iinc_6_8_1 102 rfl dX10_keptOf_99 rfl rfl ?_
          rw [nI_add]
          refine z_goto 10 dX10_keptOf_102 rfl ?_
          by_cases hi0 : i = 0
          · subst hi0
            rw [show bsL (ktG S t n (gOf (sR S b))) 0 = -1 from rfl] at h82
            rw [show amx (ktG S t n (gOf (sR S b))) (0 + 1) = 0 from if_neg (Nat.lt_irrefl _)] at hih ⊢
            first
              | exact absurd h82 (lN_neg (by omega))
              | exact hih
          · rw [show bsL (ktG S t n (gOf (sR S b))) i = lN (ktG S t n (gOf (sR S b)) (amx (ktG S t n (gOf (sR S b))) i)) from if_neg hi0] at h82
            try rw [show bsL (ktG S t n (gOf (sR S b))) i = lN (ktG S t n (gOf (sR S b)) (amx (ktG S t n (gOf (sR S b))) i)) from if_neg hi0]
            have hHa := hH _ (Nat.lt_of_lt_of_le (amx_spec (ktG S t n (gOf (sR S b))) i (by omega)).1 hi)
            rw [pk_lLE (by omega) (by omega)] at h82
            first
              | (rw [show amx (ktG S t n (gOf (sR S b))) (i + 1) = amx (ktG S t n (gOf (sR S b))) i from if_neg (by omega)] at hih ⊢; exact hih)
              | (rw [show amx (ktG S t n (gOf (sR S b))) (i + 1) = i from if_pos (by omega)] at hih ⊢; exact hih)
      refine z_iload 12 dX10_keptOf_10 rfl rfl ?_
      refine z_aload_n 13 dX10_keptOf_12 rfl rfl ?_
      refine gX10_227 16 rfl dX10_keptOf_13 rfl ?_
      rw [hB'.1]
      refine z_icmp_ge 105 19 dX10_keptOf_16 (by decide) rfl (fun h16 => ?_) (fun h16 => ?_)
      · (try rw [nI_leI (by omega) (by omega)] at h16)
        omega
      · (try rw [nI_leI (by omega) (by omega)] at h16)
        refine z_aload_n 20 dX10_keptOf_19 rfl rfl ?_
        refine z_iload_n 21 dX10_keptOf_20 rfl rfl ?_
        refine z_iload 23 dX10_keptOf_21 rfl rfl ?_
        refine z_cVI2 26 (tX10_rowAt (by omega) (by omega)) kX10_rowAt dX10_keptOf_23 rfl lX10_113 (by first | assumption | rfl) (Nat.le_of_ble_eq_true rfl) ?_
        rintro _ _ ⟨e1, e2⟩
        replace e1 := e1.symm
        replace e2 := e2.symm
        subst e1
        subst e2
        rw [hgv]
        refine zs_istore_7_8 28 rfl dX10_keptOf_26 rfl rfl ?_
        refine z_aload_n 29 dX10_keptOf_28 rfl rfl ?_
        refine z_iload 31 dX10_keptOf_29 rfl rfl ?_
        refine z_iload 33 dX10_keptOf_31 rfl rfl ?_
        refine z_cVV2 36 (tX10_setOdds hW hR hT hB' (show i < 8 by omega) v2) kX10_setOdds dX10_keptOf_33 rfl lX10_241 (by first | assumption | rfl) (Nat.le_of_ble_eq_true rfl) ?_
        rintro τ1 ⟨hF1, hX1, hO1⟩
        have hF2 : Fr fKp σ τ1 := hF.tr hF1 (fun _ _ h => h) (by intros; omega)
        have hOi : gl τ1 117 (gOf (sR S b) i) = lN (ktG S t n (gOf (sR S b)) i) := hO1 _ v2
        refine z_lload_n 37 dX10_keptOf_36 rfl rfl ?_
        refine z_aload_n 38 dX10_keptOf_37 rfl rfl ?_
        refine gX10_56 41 rfl dX10_keptOf_38 rfl ?_
        refine z_iload 43 dX10_keptOf_41 rfl rfl ?_
        refine z_laldn 44 dX10_keptOf_43 rfl (by first | assumption | rfl) (by omega) ?_
        rw [hOi]
        refine z_ladd 45 dX10_keptOf_44 rfl ?_
        rw [lN_add]
        refine zs_lstore_n_2_8 46 rfl dX10_keptOf_45 rfl rfl ?_
        refine z_aload_n 47 dX10_keptOf_46 rfl rfl ?_
        refine z_aload_n 48 dX10_keptOf_47 rfl rfl ?_
        refine gX10_56 51 rfl dX10_keptOf_48 rfl ?_
        refine z_iload 53 dX10_keptOf_51 rfl rfl ?_
        refine z_laldn 54 dX10_keptOf_53 rfl (by first | assumption | rfl) (by omega) ?_
        rw [hOi]
        refine z_lload 56 dX10_keptOf_54 rfl rfl ?_
        refine z_lcmp 57 dX10_keptOf_56 rfl ?_
        refine z_if_le 65 60 dX10_keptOf_57 (by decide) rfl (fun h57 => ?_) (fun h57 => ?_)
        · rw [lg_cmp_le] at h57
          refine z_aload_n 66 dX10_keptOf_65 rfl rfl ?_
          refine gX10_261 69 rfl dX10_keptOf_66 rfl ?_
          by_cases hi0 : i = 0
          · subst hi0
            rw [show bsL (ktG S t n (gOf (sR S b))) 0 = -1 from rfl] at h57
            first
              | exact absurd h57 (lN_neg (by omega))
              | exact go τ1 _ hF2 hX1 hOi (by rw [show amx (ktG S t n (gOf (sR S b))) (0 + 1) = 0 from if_neg (Nat.lt_irrefl _)])
          · rw [show bsL (ktG S t n (gOf (sR S b))) i = lN (ktG S t n (gOf (sR S b)) (amx (ktG S t n (gOf (sR S b))) i)) from if_neg hi0] at h57
            have hHa := hH _ (Nat.lt_of_lt_of_le (amx_spec (ktG S t n (gOf (sR S b))) i (by omega)).1 hi)
            rw [pk_lLE (by omega) (by omega)] at h57
            first
              | exact go τ1 _ hF2 hX1 hOi (by rw [hF1.gi (by omega), hv (by omega), show amx (ktG S t n (gOf (sR S b))) (i + 1) = amx (ktG S t n (gOf (sR S b))) i from if_neg (by omega)])
              | exact go τ1 _ hF2 hX1 hOi (by rw [show amx (ktG S t n (gOf (sR S b))) (i + 1) = i from if_pos (by omega)])
        · rw [lg_cmp_le] at h57
          refine z_iload 62 dX10_keptOf_60 rfl rfl ?_
          refine z_goto 69 dX10_keptOf_62 rfl ?_
          by_cases hi0 : i = 0
          · subst hi0
            rw [show bsL (ktG S t n (gOf (sR S b))) 0 = -1 from rfl] at h57
            first
              | exact absurd h57 (lN_neg (by omega))
              | exact go τ1 _ hF2 hX1 hOi (by rw [show amx (ktG S t n (gOf (sR S b))) (0 + 1) = 0 from if_neg (Nat.lt_irrefl _)])
          · rw [show bsL (ktG S t n (gOf (sR S b))) i = lN (ktG S t n (gOf (sR S b)) (amx (ktG S t n (gOf (sR S b))) i)) from if_neg hi0] at h57
            have hHa := hH _ (Nat.lt_of_lt_of_le (amx_spec (ktG S t n (gOf (sR S b))) i (by omega)).1 hi)
            rw [pk_lLE (by omega) (by omega)] at h57
            first
              | exact go τ1 _ hF2 hX1 hOi (by rw [hF1.gi (by omega), hv (by omega), show amx (ktG S t n (gOf (sR S b))) (i + 1) = amx (ktG S t n (gOf (sR S b))) i from if_neg (by omega)])
              | exact go τ1 _ hF2 hX1 hOi (by rw [show amx (ktG S t n (gOf (sR S b))) (i + 1) = i from if_pos (by omega)])
  refine z_lconst 1 (v := 0) dX10_keptOf_0 rfl rfl ?_
  refine zs_lstore_n_2_8 2 rfl dX10_keptOf_1 rfl rfl ?_
  refine z_ldc2 5 dX10_keptOf_2 rfl qX10_259 ?_
  refine zs_lstore_4_8 7 rfl dX10_keptOf_5 rfl rfl ?_
  refine z_iconst 8 (v := nI 0) dX10_keptOf_7 rfl rfl ?_
  refine zs_istore_6_8 10 rfl dX10_keptOf_8 rfl rfl ?_
  exact loop 0 (Nat.zero_le _) none σ Fr.rf hX (fun h => absurd h (Nat.lt_irrefl 0))
set_option maxRecDepth 20000 in
theorem tX10_kept {E : zE} {d : Nat} {σ : zM} {S : sS} {r b : Int32} (hW : WF S) (hX : RM S σ) : Ret E mX10_kept (d + 10) [zr E 102, .int r, .int b] σ (qM σ (spKept S r b)) := by
  have h8 := hW.2.1.1
  have hb8 := bw_le hW (show 0 < 2 by omega)
  by_cases hA : ¬ (inN r 6 ∧ inN b 6)
  · refine Ret.of [some (zr E 102), some (.int r), some (.int b), none, none, none] (by decide +kernel) (Nat.le_of_ble_eq_true rfl) rfl ?_
    refine z_iload_n 1 dX10_kept_0 rfl rfl ?_
    refine z_cSI1 4 (tX10_isRow) kX10_isRow dX10_kept_1 rfl lX10_95 (Nat.le_of_ble_eq_true rfl) ?_
    rintro _ _ ⟨e1, e2⟩
    replace e1 := e1.symm
    replace e2 := e2.symm
    subst e1
    subst e2
    refine z_ifb_eq 14 7 dX10_kept_4 (by decide) rfl (fun h4 => ?_) (fun h4 => ?_)
    · refine z_iconst 15 (v := (-1)) dX10_kept_14 rfl rfl ?_
      refine z_ri dX10_kept_15 rfl ?_
      exact qm0 (if_pos hA) hX Fr.rf
    · refine z_iload_n 8 dX10_kept_7 rfl rfl ?_
      refine z_cSI1 11 (tX10_isRow) kX10_isRow dX10_kept_8 rfl lX10_95 (Nat.le_of_ble_eq_true rfl) ?_
      rintro _ _ ⟨e1, e2⟩
      replace e1 := e1.symm
      replace e2 := e2.symm
      subst e1
      subst e2
      refine z_ifb_ne 16 14 dX10_kept_11 (by decide) rfl (fun h11 => ?_) (fun h11 => ?_)
      · exact absurd ⟨h4, h11⟩ hA
      · refine z_iconst 15 (v := (-1)) dX10_kept_14 rfl rfl ?_
        refine z_ri dX10_kept_15 rfl ?_
        exact qm0 (if_pos hA) hX Fr.rf
  have e0 : spKept S r b = _ := if_neg hA
  obtain ⟨b1, b2⟩ := Classical.not_not.mp hA
  obtain ⟨r, hr, rfl⟩ := inN_of b1
  obtain ⟨b, hb, rfl⟩ := inN_of b2
  have b1 : inN (nI r) 6 := inN_nI hr (by omega)
  have b2 : inN (nI b) 6 := inN_nI hb (by omega)
  rw [zx_nI (by omega), zx_nI (by omega)] at e0
  have hpl := sPd_lt S (sR S r) (sR S b)
  refine Ret.of [some (zr E 102), some (.int (nI r)), some (.int (nI b)), none, none, none] (by decide +kernel) (Nat.le_of_ble_eq_true rfl) rfl ?_
  by_cases hD : sPd S (sR S r) (sR S b) = 0
  · rw [if_neg (fun z => z hD)] at e0
    obtain ⟨q0, p0, hq0, hp0, hpq, hTf, hpw⟩ := sPd0 hD
    obtain ⟨q, hq, hT, hqg⟩ := sTf0 hTf
    have hsz : sSz (sR S r) = q.1 := by rw [hq]; rfl
    have hqq : q0.1 = q.1 := by rw [hq0] at hq; rw [Option.some.inj hq]
    have hp4 : p0.1 ≤ 40 := by
      have h1 := hX.1 b hb
      rw [show S.1 b = sR S b from rfl, hp0] at h1
      exact h1.1
    have hP : PdOK S (sR S b) q.1 := by rw [hp0]; exact pd_of (by omega) hp4 hb8 hpw
    have n2 := hT.1.1
    have n8 := hT.1.2.1
    have ef : ktH S (sR S r) (sR S b) = ktG S (gOf (sR S r)) q.1 (gOf (sR S b)) := by unfold ktH; rw [hsz]
    unfold ktR whR at e0
    rw [hsz, ef] at e0
    have hS : fsum (ktG S (gOf (sR S r)) q.1 (gOf (sR S b))) q.1 ≤ 331776 * q.1 := by
      obtain ⟨p, hp, hpn, hp4, hpv⟩ := hP
      exact fsum_bd q.1 (fun k hk => ktG_le hW hT (hpv k hk).2)
    have o2 := p24 (show q.1 / 2 ≤ 4 by omega)
    refine z_iload_n 1 dX10_kept_0 rfl rfl ?_
    refine z_cSI1 4 (tX10_isRow) kX10_isRow dX10_kept_1 rfl lX10_95 (Nat.le_of_ble_eq_true rfl) ?_
    rintro _ _ ⟨e1, e2⟩
    replace e1 := e1.symm
    replace e2 := e2.symm
    subst e1
    subst e2
    refine z_ifb_eq 14 7 dX10_kept_4 (by decide) rfl (fun h4 => ?_) (fun h4 => ?_)
    · exact absurd b1 h4
    · refine z_iload_n 8 dX10_kept_7 rfl rfl ?_
      refine z_cSI1 11 (tX10_isRow) kX10_isRow dX10_kept_8 rfl lX10_95 (Nat.le_of_ble_eq_true rfl) ?_
      rintro _ _ ⟨e1, e2⟩
      replace e1 := e1.symm
      replace e2 := e2.symm
      subst e1
      subst e2
      refine z_ifb_ne 16 14 dX10_kept_11 (by decide) rfl (fun h11 => ?_) (fun h11 => ?_)
      · refine z_aload_n 17 dX10_kept_16 rfl rfl ?_
        refine z_iload_n 18 dX10_kept_17 rfl rfl ?_
        refine z_iload_n 19 dX10_kept_18 rfl rfl ?_
        refine z_cVI2 22 (tX10_askedPads hW hX hr hb) kX10_askedPads dX10_kept_19 rfl lX10_264 (by first | assumption | rfl) (Nat.le_of_ble_eq_true rfl) ?_
        rintro x1 τ1 hx
        obtain ⟨_, e1, hF1, hX1, hB1⟩ := hx.resolve_right (fun z => z.1 hD)
        subst e1
        rw [hsz] at hB1
        refine zs_istore_n_3_6 23 rfl dX10_kept_22 rfl rfl ?_
        refine z_iload_n 24 dX10_kept_23 rfl rfl ?_
        refine z_if_ge 29 27 dX10_kept_24 (by decide) rfl (fun h24 => ?_) (fun h24 => ?_)
        · refine z_aload_n 30 dX10_kept_29 rfl rfl ?_
          refine z_iload_n 31 dX10_kept_30 rfl rfl ?_
          refine z_cVJ1 34 (tX10_keptOf hW hX1 hT hB1 hb hP) kX10_keptOf dX10_kept_31 rfl lX10_267 (by first | assumption | rfl) (Nat.le_of_ble_eq_true rfl) ?_
          rintro _ τ2 ⟨e2, hF2, hX2, hv2⟩
          subst e2
          refine zs_lstore_4_6 36 rfl dX10_kept_34 rfl rfl ?_
          refine z_aload_n 37 dX10_kept_36 rfl rfl ?_
          refine z_lload 39 dX10_kept_37 rfl rfl ?_
          refine z_aload_n 40 dX10_kept_39 rfl rfl ?_
          refine z_cVI0 43 (tX10_steps (hB1.fr hF2 (by omega) (by intros; omega)) n8) kX10_steps dX10_kept_40 rfl lX10_232 (by first | assumption | rfl) (Nat.le_of_ble_eq_true rfl) ?_
          rintro _ _ ⟨e1, e2⟩
          replace e1 := e1.symm
          replace e2 := e2.symm
          subst e1
          subst e2
          refine z_cSJ1 46 (tX10_whole (by omega)) kX10_whole dX10_kept_43 rfl lX10_244 (Nat.le_of_ble_eq_true rfl) ?_
          rintro _ _ ⟨e1, e2⟩
          replace e1 := e1.symm
          replace e2 := e2.symm
          subst e1
          subst e2
          refine z_aload_n 47 dX10_kept_46 rfl rfl ?_
          refine gX10_261 50 rfl dX10_kept_47 rfl ?_
          rw [hv2]
          refine z_cVI3 53 (tX10_part (by omega) (by omega) (wh_pos _)) kX10_part dX10_kept_50 rfl lX10_248 (by first | assumption | rfl) (Nat.le_of_ble_eq_true rfl) ?_
          rintro _ _ ⟨e1, e2⟩
          replace e1 := e1.symm
          replace e2 := e2.symm
          subst e1
          subst e2
          refine z_ri dX10_kept_53 rfl ?_
          exact qmt hW e0 hX2 (hF1.tr hF2 (by intros; omega) (by intros; omega))
        · exact absurd (nI_pos' (by decide)) h24
      · exact absurd b2 h11
  · rw [if_pos hD] at e0
    refine z_iload_n 1 dX10_kept_0 rfl rfl ?_
    refine z_cSI1 4 (tX10_isRow) kX10_isRow dX10_kept_1 rfl lX10_95 (Nat.le_of_ble_eq_true rfl) ?_
    rintro _ _ ⟨e1, e2⟩
    replace e1 := e1.symm
    replace e2 := e2.symm
    subst e1
    subst e2
    refine z_ifb_eq 14 7 dX10_kept_4 (by decide) rfl (fun h4 => ?_) (fun h4 => ?_)
    · exact absurd b1 h4
    · refine z_iload_n 8 dX10_kept_7 rfl rfl ?_
      refine z_cSI1 11 (tX10_isRow) kX10_isRow dX10_kept_8 rfl lX10_95 (Nat.le_of_ble_eq_true rfl) ?_
      rintro _ _ ⟨e1, e2⟩
      replace e1 := e1.symm
      replace e2 := e2.symm
      subst e1
      subst e2
      refine z_ifb_ne 16 14 dX10_kept_11 (by decide) rfl (fun h11 => ?_) (fun h11 => ?_)
      · refine z_aload_n 17 dX10_kept_16 rfl rfl ?_
        refine z_iload_n 18 dX10_kept_17 rfl rfl ?_
        refine z_iload_n 19 dX10_kept_18 rfl rfl ?_
        refine z_cVI2 22 (tX10_askedPads hW hX hr hb) kX10_askedPads dX10_kept_19 rfl lX10_264 (by first | assumption | rfl) (Nat.le_of_ble_eq_true rfl) ?_
        rintro x1 τ1 hx
        obtain ⟨_, e1, τ0, hF0, hX0, e2⟩ := hx.resolve_left (fun z => hD z.1)
        subst e1
        subst e2
        refine zs_istore_n_3_6 23 rfl dX10_kept_22 rfl rfl ?_
        refine z_iload_n 24 dX10_kept_23 rfl rfl ?_
        refine z_if_ge 29 27 dX10_kept_24 (by decide) rfl (fun h24 => ?_) (fun h24 => ?_)
        · exact absurd h24 (by decide)
        · refine z_iload_n 28 dX10_kept_27 rfl rfl ?_
          refine z_ri dX10_kept_28 rfl ?_
          exact qmf hW e0 hpl hX0 hF0
      · exact absurd b2 h11
