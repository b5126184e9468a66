/-! guesser -/
def fprod (f : Nat → Nat) : Nat → Nat
  | 0 => 1
  | n + 1 => fprod f n * f n
/-- the share that the leaf's word has, if p guessed as one of kind k -/
def gL (S : sS) (p k e : Nat) : Nat → Nat := gS (lk S p k) (sUs S (sPl S p).2.1) (sLf S e).2.2.2.1 (sLf S e).2.2.2.2.1 (DB S (sLf S e).2.2.2.2.2)
def shL (S : sS) (p k e : Nat) : Nat := hSh (gL S p k e) (sBw S 0) (fv S p) (sLf S e).2.2.1
def lik (S : sS) (p k n : Nat) : Nat := fprod (fun e => if lOf S true p e then shL S p k e else 1) n
theorem shL_le {S : sS} (hW : WF S) {p e : Nat} (hp : p < sPc S) (he : e < sLc S) (k : Nat) : shL S p k e ≤ 24 := by
  have h1 := hSh_sum (s := gL S p k e) (n := sBw S 0) (fav := fv S p) (plOK hW hp).2.2.2.2
  have h2 := fsum_one (f := hSh (gL S p k e) (sBw S 0) (fv S p)) (sBw S 0) (sLf S e).2.2.1 (lfWord hW he)
  unfold shL
  omega
theorem lik_le {S : sS} (hW : WF S) {p : Nat} (hp : p < sPc S) (k : Nat) : ∀ n, n ≤ sLc S → lik S p k n ≤ 24 ^ lvs S true p n := by
  intro n
  induction n with
  | zero => intro _; exact Nat.le_refl 1
  | succ n ih =>
    intro hn
    have h1 := ih (by omega)
    show lik S p k n * (if lOf S true p n then shL S p k n else 1) ≤ 24 ^ (lvs S true p n + if lOf S true p n then 1 else 0)
    by_cases h : lOf S true p n
    · rw [if_pos h, if_pos h, Nat.pow_succ]
      exact Nat.mul_le_mul h1 (shL_le hW hp (by omega) k)
    · rw [if_neg h, if_neg h, Nat.mul_one, Nat.add_zero]
      exact h1
theorem tX9_drawerO {E : zE} {d : Nat} {σ : zM} {S : sS} {o : Option Nat} (hW : WF S) (hX : RX S σ) (ho : ∀ q, o = some q → q < sPc S) : Ret E mX9_drawer (d + 1) [zr E 0, .int (byI o)] σ (qA fun x τ => ByV E σ x (sBw S 0) (DB S o) ∧ τ = σ) := by
  cases o with
  | none =>
    refine (tX9_drawerN hW hX (v := -9) (fun z => z.1 (by decide))).imp (fun v τ h => ?_)
    obtain ⟨x, h1, e, h3⟩ := h
    exact ⟨x, h1, by rw [e]; exact ByV.none, h3⟩
  | some q =>
    refine (tX9_drawerP hW hX (ho q rfl)).imp (fun v τ h => ?_)
    obtain ⟨x, h1, e, h3⟩ := h
    exact ⟨x, h1, by rw [e]; exact hX.by hW (ho q rfl), h3⟩
set_option maxRecDepth 20000 in
theorem tX9_likelihood {E : zE} {d : Nat} {σ : zM} {S : sS} {p k : Nat} (hW : WF S) (hX : RX S σ) (hp : p < sPc S) (hk : k < 6) : Ret E mX9_likelihood (d + 3) [zr E 0, .int (nI p), .int (nI k)] σ (qJ fun x τ => x = lN (lik S p k (sLc S)) ∧ Fr xS σ τ ∧ RX S τ) := by
  have h8 := hW.2.1.1
  have h12 := hW.2.2.1
  have hb8 := bw_le hW (show 0 < 2 by omega)
  have hc := kd_p (show p < 8 by omega)
  obtain ⟨o1, o2, o3, o4, o5⟩ := lkOK hW hp hk
  refine Ret.of [some (zr E 0), some (.int (nI p)), some (.int (nI k)), none, none, none] (by decide +kernel) (Nat.le_of_ble_eq_true rfl) rfl ?_
  have loop : ∀ i, i ≤ sLc S → ∀ τ, Fr xS σ τ → RX S τ → Py τ 100 (lk S p k) (44 + 2 * (sPl S p).2.1) → At E mX9_likelihood (d + 3) (qJ fun x τ => x = lN (lik S p k (sLc S)) ∧ Fr xS σ τ ∧ RX S τ) 19 [some (zr E 0), some (.int (nI p)), some (.int (nI k)), some (.long (lN (lik S p k i))), none, some (.int (nI i))] [] τ := by
    refine z_up (fun i hi ih τ hF hR hP => ?_)
    have hlc : gi τ 0 12 = nI (sLc S) := hR.2.2.2.2.1.1
    by_cases hie : i = sLc S
    · subst hie
      refine z_iload 21 dX9_likelihood_19 rfl rfl ?_
      refine z_aload_n 22 dX9_likelihood_21 rfl rfl ?_
      refine gX9_153 25 rfl dX9_likelihood_22 rfl ?_
      rw [hlc]
      refine z_icmp_ge 105 28 dX9_likelihood_25 (by decide) rfl (fun h25 => ?_) (fun h25 => ?_)
      · (try rw [nI_leI (by omega) (by omega)] at h25)
        refine z_lload_n 106 dX9_likelihood_105 rfl rfl ?_
        refine z_rl dX9_likelihood_106 rfl ?_
        exact ⟨rfl, hF, hR⟩
      · (try rw [nI_leI (by omega) (by omega)] at h25)
        omega
    · have hil : i < sLc S := by omega
      have hke := kd_e (show i < 12 by omega)
      have hke1 := kd_e1 (show i < 12 by omega)
      have hke2 := kd_e2 (show i < 12 by omega)
      have hww := lfWord hW hil
      have hpt := lfPts hW hil
      obtain ⟨l1, l2, l3, l4, l5, l6, l7⟩ := hR.2.2.2.2.1.2 i hil
      have hby : gi τ (64 + 3 * i) 5 = byI (sLf S i).2.2.2.2.2 := l5
      have hD : DrG τ (64 + 3 * i + 1) (sLf S i).2.2.2.1 (sLf S i).2.2.2.2.1 := ⟨l6, l7⟩
      have hsl := shL_le hW hp hil k
      refine z_iload 21 dX9_likelihood_19 rfl rfl ?_
      refine z_aload_n 22 dX9_likelihood_21 rfl rfl ?_
      refine gX9_153 25 rfl dX9_likelihood_22 rfl ?_
      rw [hlc]
      refine z_icmp_ge 105 28 dX9_likelihood_25 (by decide) rfl (fun h25 => ?_) (fun h25 => ?_)
      · (try rw [nI_leI (by omega) (by omega)] at h25)
        omega
      · (try rw [nI_leI (by omega) (by omega)] at h25)
        refine z_aload_n 29 dX9_likelihood_28 rfl rfl ?_
        refine gX9_32 32 rfl dX9_likelihood_29 rfl ?_
        refine z_iload 34 dX9_likelihood_32 rfl rfl ?_
        refine z_aald5 35 dX9_likelihood_34 rfl (by omega) ?_
        refine z_iload_n 36 dX9_likelihood_35 rfl rfl ?_
        refine z_iconst 37 (v := nI 1) dX9_likelihood_36 rfl rfl ?_
        refine z_cVI2 40 (tX3_isOf (k := true) hW hR hil hp) kX3_isOf dX9_likelihood_37 rfl lX9_437 (by first | assumption | rfl) (Nat.le_of_ble_eq_true rfl) ?_
        rintro _ _ ⟨e1, e2⟩
        replace e1 := e1.symm
        replace e2 := e2.symm
        subst e1
        subst e2
        refine z_ifb_eq 99 43 dX9_likelihood_40 (by decide) rfl (fun h40 => ?_) (fun h40 => ?_)
        · have er : lik S p k (i + 1) = lik S p k i := by (show lik S p k i * (if lOf S true p i then shL S p k i else 1) = _; rw [if_neg h40, Nat.mul_one])
          refine zs_iinc_5_6_1 102 rfl dX9_likelihood_99 rfl rfl ?_
          rw [nI_add]
          refine z_goto 19 dX9_likelihood_102 rfl ?_
          first
            | (have hih := ih (i + 1) (by omega) (by omega) τ hF hR hP
               rw [er] at hih
               exact hih)
            | (have hih := ih (i + 1) (by omega) (by omega) τ1 (hF.tr hF1 (fun _ _ h => h) (by unfold xS; intros; omega)) hX1 (hP.fr hF1 (by intros; omega))
               rw [er] at hih
               exact hih)
        · have er : lik S p k (i + 1) = lik S p k i * shL S p k i := by (show lik S p k i * (if lOf S true p i then shL S p k i else 1) = _; rw [if_pos h40])
          refine z_aload_n 44 dX9_likelihood_43 rfl rfl ?_
          refine gX9_53 47 rfl dX9_likelihood_44 rfl ?_
          refine z_aload_n 48 dX9_likelihood_47 rfl rfl ?_
          refine gX9_79 51 rfl dX9_likelihood_48 rfl ?_
          refine z_aload_n 52 dX9_likelihood_51 rfl rfl ?_
          refine gX9_32 55 rfl dX9_likelihood_52 rfl ?_
          refine z_iload 57 dX9_likelihood_55 rfl rfl ?_
          refine z_aald5 58 dX9_likelihood_57 rfl (by omega) ?_
          refine gX9_444 61 rfl dX9_likelihood_58 rfl (by first | assumption | rfl) ?_
          refine z_aload_n 62 dX9_likelihood_61 rfl rfl ?_
          refine z_aload_n 63 dX9_likelihood_62 rfl rfl ?_
          refine gX9_32 66 rfl dX9_likelihood_63 rfl ?_
          refine z_iload 68 dX9_likelihood_66 rfl rfl ?_
          refine z_aald5 69 dX9_likelihood_68 rfl (by omega) ?_
          refine gX9_447 72 rfl dX9_likelihood_69 rfl (by first | assumption | rfl) ?_
          rw [hby]
          refine z_cVA1 75 (tX9_drawerO hW hR (fun q hq => (hW.2.2.2 i hil).2.2.2.2.2 q hq)) kX9_drawer dX9_likelihood_72 rfl lX9_221 (by first | assumption | rfl) (Nat.le_of_ble_eq_true rfl) ?_
          rintro vv _ ⟨hV, e1⟩
          subst e1
          refine z_cVV3 78 (tX6_reckon (a := 64 + 3 * i + 1) (c := 100) (b := 44 + 2 * (sPl S p).2.1) (bw := sBw S 0) (n := (sLf S i).2.2.2.1) (u := sUs S (sPl S p).2.1) (g := (sLf S i).2.2.2.2.1) hke1 hke2 rfl (kd_b o2) (kd_b1 o2) hP o1 o5 (hR.bxp hW hp) (fun w hw => usLe hW hp hw) hD hpt hV) kX6_reckon dX9_likelihood_75 rfl lX9_225 (by first | assumption | rfl) (Nat.le_of_ble_eq_true rfl) ?_
          rintro τ1 ⟨hF1, hS1⟩
          have hX1 : RX S τ1 := hR.scr hW (hF1.mono (by unfold xS; intros; omega))
          have hS1 : Shr τ1 (sBw S 0) (fv S p) (gL S p k i) := hS1
          have hwrd : gi τ1 (64 + 3 * i) 3 = nI (sLf S i).2.2.1 := (hX1.2.2.2.2.1.2 i hil).2.2.1
          refine z_lload_n 79 dX9_likelihood_78 rfl rfl ?_
          refine z_aload_n 80 dX9_likelihood_79 rfl rfl ?_
          refine gX9_53 83 rfl dX9_likelihood_80 rfl ?_
          refine z_aload_n 84 dX9_likelihood_83 rfl rfl ?_
          refine gX9_32 87 rfl dX9_likelihood_84 rfl ?_
          refine z_iload 89 dX9_likelihood_87 rfl rfl ?_
          refine z_aald5 90 dX9_likelihood_89 rfl (by omega) ?_
          refine gX9_344 93 rfl dX9_likelihood_90 rfl (by first | assumption | rfl) ?_
          rw [hwrd]
          refine z_cVI1 96 (tX6_get hb8 hS1.1 hww) kX6_get dX9_likelihood_93 rfl lX9_197 (by first | assumption | rfl) (Nat.le_of_ble_eq_true rfl) ?_
          rintro _ _ ⟨e1, e2⟩
          replace e1 := e1.symm
          replace e2 := e2.symm
          subst e1
          subst e2
          rw [hS1.2.2 _ hww, show hSh (gL S p k i) (sBw S 0) (fv S p) (sLf S i).2.2.1 = shL S p k i from rfl]
          refine z_i2l 97 dX9_likelihood_96 rfl ?_
          rw [nI_l (by omega)]
          refine z_lmul 98 dX9_likelihood_97 rfl ?_
          rw [lN_mul]
          refine zs_lstore_n_3_6 99 rfl dX9_likelihood_98 rfl rfl ?_
          refine zs_iinc_5_6_1 102 rfl dX9_likelihood_99 rfl rfl ?_
          rw [nI_add]
          refine z_goto 19 dX9_likelihood_102 rfl ?_
          first
            | (have hih := ih (i + 1) (by omega) (by omega) τ hF hR hP
               rw [er] at hih
               exact hih)
            | (have hih := ih (i + 1) (by omega) (by omega) τ1 (hF.tr hF1 (fun _ _ h => h) (by unfold xS; intros; omega)) hX1 (hP.fr hF1 (by intros; omega))
               rw [er] at hih
               exact hih)
  refine z_aload_n 1 dX9_likelihood_0 rfl rfl ?_
  refine gX9_79 4 rfl dX9_likelihood_1 rfl ?_
  refine z_aload_n 5 dX9_likelihood_4 rfl rfl ?_
  refine gX9_26 8 rfl dX9_likelihood_5 rfl ?_
  refine z_iload_n 9 dX9_likelihood_8 rfl rfl ?_
  refine z_aald4 10 dX9_likelihood_9 rfl (by omega) ?_
  refine z_iload_n 11 dX9_likelihood_10 rfl rfl ?_
  refine z_cVV2 14 (tX4_becomeLike hW hX hp) kX4_becomeLike dX9_likelihood_11 rfl lX9_441 (by first | assumption | rfl) (Nat.le_of_ble_eq_true rfl) ?_
  rintro τ1 ⟨hF1, hP1⟩
  refine z_lconst 15 (v := 1) dX9_likelihood_14 rfl rfl ?_
  refine zs_lstore_n_3_6 16 rfl dX9_likelihood_15 rfl rfl ?_
  refine z_iconst 17 (v := nI 0) dX9_likelihood_16 rfl rfl ?_
  refine zs_istore_5_6 19 rfl dX9_likelihood_17 rfl rfl ?_
  exact loop 0 (Nat.zero_le _) τ1 (hF1.mono (by unfold xS; intros; omega)) (hX.scr hW (hF1.mono (by unfold xS; intros; omega))) hP1
