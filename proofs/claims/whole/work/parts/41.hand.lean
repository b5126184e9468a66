/-! hand -/
def lk (S : sS) (p k : Nat) : sPly := (k, (sPl S p).2)
def dL (S : sS) (p k w : Nat) : List Nat := dList (sUs S (sPl S p).2.1 w) (dMost (lk S p k))
def unl (S : sS) (p k e : Nat) : Nat := pop (pset (sLf S e).2.2.2.2.1 (sLf S e).2.2.2.1 ^^^ bset (dL S p k (sLf S e).2.2.1))
def hOff (S : sS) (p k n : Nat) : Nat := fsum (fun e => if lOf S false p e then unl S p k e else 0) n
def amn (f : Nat → Nat) : Nat → Nat
  | 0 => 0
  | n + 1 => if f n < f (amn f n) then n else amn f n
theorem amn_lt (f : Nat → Nat) : ∀ n, 0 < n → amn f n < n := by
  intro n
  induction n with
  | zero => intro h; omega
  | succ n ih =>
    intro _
    rw [amn]
    split
    · omega
    · by_cases hn : n = 0
      · subst hn; exact Nat.zero_lt_one
      · have := ih (by omega); omega
theorem pop_le (x : Nat) : pop x ≤ 10 := by
  have h : pop x ≤ 1 * 10 := fsum_bd 10 (fun i _ => by show (if x.testBit i then 1 else 0) ≤ 1; split <;> omega)
  omega
theorem hOff_le (S : sS) (p k n : Nat) : hOff S p k n ≤ 10 * n := fsum_bd n (fun e _ => by
  show (if lOf S false p e then unl S p k e else 0) ≤ 10
  split
  · exact pop_le _
  · omega)
theorem lkOK {S : sS} (hW : WF S) {p : Nat} (hp : p < sPc S) {k : Nat} (hk : k < 6) : PlOK (lk S p k) (sBw S 0) := by
  obtain ⟨o1, o2, o3, o4, o5⟩ := plOK hW hp
  exact ⟨hk, o2, o3, o4, o5⟩
set_option maxRecDepth 20000 in
theorem tX4_becomeLike {E : zE} {d : Nat} {σ : zM} {S : sS} {p k : Nat} (hW : WF S) (hX : RX S σ) (hp : p < sPc S) : Ret E mX4_becomeLike (d + 1) [zr E 100, zr E (48 + 2 * p), .int (nI k)] σ (qV fun τ => Fr (fun x y => x = 100) σ τ ∧ Py τ 100 (lk S p k) (44 + 2 * (sPl S p).2.1)) := by
  have h8 := hW.2.1.1
  have hc := kd_p (show p < 8 by omega)
  obtain ⟨p1, p2, p3, p4, p5⟩ := hX.py hp
  refine Ret.of [some (zr E 100), some (zr E (48 + 2 * p)), some (.int (nI k))] (by decide +kernel) (Nat.le_of_ble_eq_true rfl) rfl ?_
  refine z_aload_n 1 dX4_becomeLike_0 rfl rfl ?_
  refine z_iload_n 2 dX4_becomeLike_1 rfl rfl ?_
  refine z_aload_n 3 dX4_becomeLike_2 rfl rfl ?_
  refine gX4_23 6 rfl dX4_becomeLike_3 rfl (by first | assumption | rfl) ?_
  refine z_aload_n 7 dX4_becomeLike_6 rfl rfl ?_
  refine gX4_26 10 rfl dX4_becomeLike_7 rfl (by first | assumption | rfl) ?_
  refine z_aload_n 11 dX4_becomeLike_10 rfl rfl ?_
  refine gX4_29 14 rfl dX4_becomeLike_11 rfl (by first | assumption | rfl) ?_
  refine z_aload_n 15 dX4_becomeLike_14 rfl rfl ?_
  refine gX4_15 18 rfl dX4_becomeLike_15 rfl (by first | assumption | rfl) ?_
  rw [p2, p3, p4, p5]
  refine z_cVV5 21 (tX4_become rfl) kX4_become dX4_becomeLike_18 rfl lX4_32 (by first | assumption | rfl) (Nat.le_of_ble_eq_true rfl) ?_
  rintro τ1 ⟨hF1, hP1⟩
  refine z_rv dX4_becomeLike_21 rfl ?_
  exact ⟨hF1, hP1⟩
set_option maxRecDepth 20000 in
theorem tX9_handOff {E : zE} {d : Nat} {σ : zM} {S : sS} {p k : Nat} (hW : WF S) (hX : RX S σ) (hp : p < sPc S) (hk : k < 6) : Ret E mX9_handOff (d + 3) [zr E 0, .int (nI p), .int (nI k)] σ (qI fun x τ => x = nI (hOff S p k (sLc S)) ∧ Fr xS σ τ ∧ RX S τ) := by
  have h8 := hW.2.1.1
  have h12 := hW.2.2.1
  have hb8 := bw_le hW (show 0 < 2 by omega)
  have hc := kd_p (show p < 8 by omega)
  obtain ⟨o1, o2, o3, o4, o5⟩ := lkOK hW hp hk
  refine Ret.of [some (zr E 0), some (.int (nI p)), some (.int (nI k)), none, none] (by decide +kernel) (Nat.le_of_ble_eq_true rfl) rfl ?_
  have loop : ∀ i, i ≤ sLc S → ∀ τ, Fr xS σ τ → RX S τ → Py τ 100 (lk S p k) (44 + 2 * (sPl S p).2.1) → At E mX9_handOff (d + 3) (qI fun x τ => x = nI (hOff S p k (sLc S)) ∧ Fr xS σ τ ∧ RX S τ) 19 [some (zr E 0), some (.int (nI p)), some (.int (nI k)), some (.int (nI (hOff S p k i))), some (.int (nI i))] [] τ := by
    refine z_up (fun i hi ih τ hF hR hP => ?_)
    have hlc : gi τ 0 12 = nI (sLc S) := hR.2.2.2.2.1.1
    by_cases hie : i = sLc S
    · subst hie
      refine z_iload 21 dX9_handOff_19 rfl rfl ?_
      refine z_aload_n 22 dX9_handOff_21 rfl rfl ?_
      refine gX9_153 25 rfl dX9_handOff_22 rfl ?_
      rw [hlc]
      refine z_icmp_ge 90 28 dX9_handOff_25 (by decide) rfl (fun h25 => ?_) (fun h25 => ?_)
      · (try rw [nI_leI (by omega) (by omega)] at h25)
        refine z_iload_n 91 dX9_handOff_90 rfl rfl ?_
        refine z_ri dX9_handOff_91 rfl ?_
        exact ⟨rfl, hF, hR⟩
      · (try rw [nI_leI (by omega) (by omega)] at h25)
        omega
    · have hil : i < sLc S := by omega
      have hke := kd_e (show i < 12 by omega)
      have hww := lfWord hW hil
      have hul := usLe hW hp hww
      have hwrd : gi τ (64 + 3 * i) 3 = nI (sLf S i).2.2.1 := (hR.2.2.2.2.1.2 i hil).2.2.1
      have hll : ∀ x ∈ dL S p k (sLf S i).2.2.1, x < 10 := fun x hx => dList_lt hul hx
      refine z_iload 21 dX9_handOff_19 rfl rfl ?_
      refine z_aload_n 22 dX9_handOff_21 rfl rfl ?_
      refine gX9_153 25 rfl dX9_handOff_22 rfl ?_
      rw [hlc]
      refine z_icmp_ge 90 28 dX9_handOff_25 (by decide) rfl (fun h25 => ?_) (fun h25 => ?_)
      · (try rw [nI_leI (by omega) (by omega)] at h25)
        omega
      · (try rw [nI_leI (by omega) (by omega)] at h25)
        refine z_aload_n 29 dX9_handOff_28 rfl rfl ?_
        refine gX9_32 32 rfl dX9_handOff_29 rfl ?_
        refine z_iload 34 dX9_handOff_32 rfl rfl ?_
        refine z_aald5 35 dX9_handOff_34 rfl (by omega) ?_
        refine z_iload_n 36 dX9_handOff_35 rfl rfl ?_
        refine z_iconst 37 (v := nI 0) dX9_handOff_36 rfl rfl ?_
        refine z_cVI2 40 (tX3_isOf (k := false) hW hR hil hp) kX3_isOf dX9_handOff_37 rfl lX9_437 (by first | assumption | rfl) (Nat.le_of_ble_eq_true rfl) ?_
        rintro _ _ ⟨e1, e2⟩
        replace e1 := e1.symm
        replace e2 := e2.symm
        subst e1
        subst e2
        refine z_ifb_eq 84 43 dX9_handOff_40 (by decide) rfl (fun h40 => ?_) (fun h40 => ?_)
        · have er : hOff S p k (i + 1) = hOff S p k i := by (show hOff S p k i + (if lOf S false p i then unl S p k i else 0) = _; rw [if_neg h40, Nat.add_zero])
          have τ1 := τ
          refine zs_iinc_4_5_1 87 rfl dX9_handOff_84 rfl rfl ?_
          rw [nI_add]
          refine z_goto 19 dX9_handOff_87 rfl ?_
          first
            | (have hih := ih (i + 1) (by omega) (by omega) τ hF hR hP
               rw [er] at hih
               exact hih)
            | (have hih := ih (i + 1) (by omega) (by omega) τ1 (hF.tr hF1 (fun _ _ h => h) (by unfold xS; intros; omega)) hX1 (hP.fr hF1 (by intros; omega))
               rw [er] at hih
               exact hih)
        · have er : hOff S p k (i + 1) = hOff S p k i + unl S p k i := by (show hOff S p k i + (if lOf S false p i then unl S p k i else 0) = _; rw [if_pos h40])
          refine z_aload_n 44 dX9_handOff_43 rfl rfl ?_
          refine gX9_46 47 rfl dX9_handOff_44 rfl ?_
          refine z_aload_n 48 dX9_handOff_47 rfl rfl ?_
          refine gX9_79 51 rfl dX9_handOff_48 rfl ?_
          refine z_aload_n 52 dX9_handOff_51 rfl rfl ?_
          refine gX9_32 55 rfl dX9_handOff_52 rfl ?_
          refine z_iload 57 dX9_handOff_55 rfl rfl ?_
          refine z_aald5 58 dX9_handOff_57 rfl (by omega) ?_
          refine gX9_344 61 rfl dX9_handOff_58 rfl (by first | assumption | rfl) ?_
          rw [hwrd]
          refine z_cVV2 64 (tX2_drawBy (a := 8) (b := 44 + 2 * (sPl S p).2.1) (bw := sBw S 0) (w := (sLf S i).2.2.1) (u := sUs S (sPl S p).2.1) rfl rfl rfl (kd_b o2) (kd_b1 o2) hP o1 o3 o4 (hR.bxp hW hp) (by rw [uz_eq hww]; exact hul) (by omega)) kX2_drawBy dX9_handOff_61 rfl lX9_185 (by first | assumption | rfl) (Nat.le_of_ble_eq_true rfl) ?_
          rintro τ1 ⟨hF1, hD1⟩
          rw [uz_eq hww] at hD1
          have hD1 : Dr τ1 8 (dL S p k (sLf S i).2.2.1) := hD1
          have hX1 : RX S τ1 := hR.scr hW (hF1.mono (by unfold xS; intros; omega))
          refine z_iload_n 65 dX9_handOff_64 rfl rfl ?_
          refine z_aload_n 66 dX9_handOff_65 rfl rfl ?_
          refine gX9_32 69 rfl dX9_handOff_66 rfl ?_
          refine z_iload 71 dX9_handOff_69 rfl rfl ?_
          refine z_aald5 72 dX9_handOff_71 rfl (by omega) ?_
          refine z_aload_n 73 dX9_handOff_72 rfl rfl ?_
          refine gX9_46 76 rfl dX9_handOff_73 rfl ?_
          refine z_cVI0 79 (tX2_set (a := 8) rfl rfl hD1 (dList_len o3 o4) hll) kX2_set dX9_handOff_76 rfl lX9_415 (by first | assumption | rfl) (Nat.le_of_ble_eq_true rfl) ?_
          rintro _ _ ⟨e1, e2⟩
          replace e1 := e1.symm
          replace e2 := e2.symm
          subst e1
          subst e2
          refine z_cVI1 82 (tX3_unlike hW hX1 hil (bset_lt hll)) kX3_unlike dX9_handOff_79 rfl lX9_341 (by first | assumption | rfl) (Nat.le_of_ble_eq_true rfl) ?_
          rintro _ _ ⟨e1, e2⟩
          replace e1 := e1.symm
          replace e2 := e2.symm
          subst e1
          subst e2
          refine z_iadd 83 dX9_handOff_82 rfl ?_
          rw [nI_add]
          refine zs_istore_n_3_5 84 rfl dX9_handOff_83 rfl rfl ?_
          refine zs_iinc_4_5_1 87 rfl dX9_handOff_84 rfl rfl ?_
          rw [nI_add]
          refine z_goto 19 dX9_handOff_87 rfl ?_
          first
            | (have hih := ih (i + 1) (by omega) (by omega) τ hF hR hP
               rw [er] at hih
               exact hih)
            | (have hih := ih (i + 1) (by omega) (by omega) τ1 (hF.tr hF1 (fun _ _ h => h) (by unfold xS; intros; omega)) hX1 (hP.fr hF1 (by intros; omega))
               rw [er] at hih
               exact hih)
  refine z_aload_n 1 dX9_handOff_0 rfl rfl ?_
  refine gX9_79 4 rfl dX9_handOff_1 rfl ?_
  refine z_aload_n 5 dX9_handOff_4 rfl rfl ?_
  refine gX9_26 8 rfl dX9_handOff_5 rfl ?_
  refine z_iload_n 9 dX9_handOff_8 rfl rfl ?_
  refine z_aald4 10 dX9_handOff_9 rfl (by omega) ?_
  refine z_iload_n 11 dX9_handOff_10 rfl rfl ?_
  refine z_cVV2 14 (tX4_becomeLike hW hX hp) kX4_becomeLike dX9_handOff_11 rfl lX9_441 (by first | assumption | rfl) (Nat.le_of_ble_eq_true rfl) ?_
  rintro τ1 ⟨hF1, hP1⟩
  refine z_iconst 15 (v := nI 0) dX9_handOff_14 rfl rfl ?_
  refine zs_istore_n_3_5 16 rfl dX9_handOff_15 rfl rfl ?_
  refine z_iconst 17 (v := nI 0) dX9_handOff_16 rfl rfl ?_
  refine zs_istore_4_5 19 rfl dX9_handOff_17 rfl rfl ?_
  exact loop 0 (Nat.zero_le _) τ1 (hF1.mono (by unfold xS; intros; omega)) (hX.scr hW (hF1.mono (by unfold xS; intros; omega))) hP1
def hO (S : sS) (p k : Nat) : Nat := hOff S p k (sLc S)
def spHand (S : sS) (p : Int32) : Int32 × sS := if ¬ inN p (sPc S) then (-1, S) else if lvs S false (zx p) (sLc S) = 0 then sFd S 4 else sAsk S (nI (hO S (zx p) (amn (hO S (zx p)) 6))) (nI (amn (hO S (zx p)) 6))
set_option maxRecDepth 20000 in
theorem tX9_hand {E : zE} {d : Nat} {σ : zM} {S : sS} {p : Int32} (hW : WF S) (hX : RX S σ) : Ret E mX9_hand (d + 4) [zr E 0, .int p] σ (qX σ (spHand S p)) := by
  have h8 := hW.2.1.1
  have h12 := hW.2.2.1
  by_cases hA : ¬ inN p (sPc S)
  · refine Ret.of [some (zr E 0), some (.int p), none, none, none, none] (by decide +kernel) (Nat.le_of_ble_eq_true rfl) rfl ?_
    refine z_aload_n 1 dX9_hand_0 rfl rfl ?_
    refine z_iload_n 2 dX9_hand_1 rfl rfl ?_
    refine z_cVI1 5 (tX9_isPl (by assumption) (by assumption)) kX9_isPlayer dX9_hand_2 rfl lX9_176 (by first | assumption | rfl) (Nat.le_of_ble_eq_true rfl) ?_
    rintro _ _ ⟨e1, e2⟩
    replace e1 := e1.symm
    replace e2 := e2.symm
    subst e1
    subst e2
    refine z_ifb_ne 10 8 dX9_hand_5 (by decide) rfl (fun h5 => ?_) (fun h5 => ?_)
    · exact absurd h5 hA
    · refine z_iconst 9 (v := (-1)) dX9_hand_8 rfl rfl ?_
      refine z_ri dX9_hand_9 rfl ?_
      exact qx0 (if_pos hA) hX Fr.rf
  have e0 : spHand S p = _ := if_neg hA
  have hA := Classical.not_not.mp hA
  have hA' := hA
  obtain ⟨p, hp, rfl⟩ := inN_of hA
  rw [zx_nI (by omega)] at e0
  have hlv := lvs_le S false p (sLc S)
  have hob : ∀ k, hO S p k ≤ 120 := fun k => by have h : hO S p k ≤ 10 * sLc S := hOff_le S p k (sLc S); omega
  refine Ret.of [some (zr E 0), some (.int (nI p)), none, none, none, none] (by decide +kernel) (Nat.le_of_ble_eq_true rfl) rfl ?_
  by_cases hZ : lvs S false p (sLc S) = 0
  · rw [if_pos hZ] at e0
    refine z_aload_n 1 dX9_hand_0 rfl rfl ?_
    refine z_iload_n 2 dX9_hand_1 rfl rfl ?_
    refine z_cVI1 5 (tX9_isPl (by assumption) (by assumption)) kX9_isPlayer dX9_hand_2 rfl lX9_176 (by first | assumption | rfl) (Nat.le_of_ble_eq_true rfl) ?_
    rintro _ _ ⟨e1, e2⟩
    replace e1 := e1.symm
    replace e2 := e2.symm
    subst e1
    subst e2
    refine z_ifb_ne 10 8 dX9_hand_5 (by decide) rfl (fun h5 => ?_) (fun h5 => ?_)
    · refine z_aload_n 11 dX9_hand_10 rfl rfl ?_
      refine z_iload_n 12 dX9_hand_11 rfl rfl ?_
      refine z_iconst 13 (v := nI 0) dX9_hand_12 rfl rfl ?_
      refine z_cVI2 16 (tX9_leavesOf (k := false) hW hX hp) kX9_leavesOf dX9_hand_13 rfl lX9_327 (by first | assumption | rfl) (Nat.le_of_ble_eq_true rfl) ?_
      rintro _ _ ⟨e1, e2⟩
      replace e1 := e1.symm
      replace e2 := e2.symm
      subst e1
      subst e2
      refine z_if_ne 28 19 dX9_hand_16 (by decide) rfl (fun h16 => ?_) (fun h16 => ?_)
      · (try rw [nI_eq0 (by omega)] at h16)
        exact absurd hZ h16
      · (try rw [nI_eq0 (by omega)] at h16)
        refine z_aload_n 20 dX9_hand_19 rfl rfl ?_
        refine gX9_39 23 rfl dX9_hand_20 rfl ?_
        refine z_iconst 24 (v := nI 4) dX9_hand_23 rfl rfl ?_
        refine z_cVI1 27 (tX0_found (by omega) (by omega)) kX0_found dX9_hand_24 rfl lX9_87 (by first | assumption | rfl) (Nat.le_of_ble_eq_true rfl) ?_
        rintro _ _ ⟨e1, e2⟩
        replace e1 := e1.symm
        replace e2 := e2.symm
        subst e1
        subst e2
        refine z_ri dX9_hand_27 rfl ?_
        exact qxf hW e0 (by decide) hX Fr.rf
    · exact absurd hA' h5
  rw [if_neg hZ] at e0
  have loop : ∀ i, i ≤ 6 → ∀ y τ, Fr xS σ τ → RX S τ → At E mX9_hand (d + 4) (qX σ (spHand S (nI p))) 40 [some (zr E 0), some (.int (nI p)), some (.int (nI (amn (hO S p) i))), some (.int (nI (hO S p (amn (hO S p) i)))), some (.int (nI i)), y] [] τ := by
    refine z_up (fun i hi ih y τ hF hR => ?_)
    by_cases hie : i = 6
    · subst hie
      refine z_iload 42 dX9_hand_40 rfl rfl ?_
      refine z_bipush 44 (v := nI 6) dX9_hand_42 rfl rfl ?_
      refine z_icmp_ge 74 47 dX9_hand_44 (by decide) rfl (fun h44 => ?_) (fun h44 => ?_)
      · (try rw [nI_leI (by omega) (by omega)] at h44)
        refine z_aload_n 75 dX9_hand_74 rfl rfl ?_
        refine gX9_39 78 rfl dX9_hand_75 rfl ?_
        refine z_iload_n 79 dX9_hand_78 rfl rfl ?_
        refine z_cVI1 82 (tX0_ask) kX0_ask dX9_hand_79 rfl lX9_104 (by first | assumption | rfl) (Nat.le_of_ble_eq_true rfl) ?_
        rintro _ _ ⟨e1, e2⟩
        replace e1 := e1.symm
        replace e2 := e2.symm
        subst e1
        subst e2
        refine z_pop 83 dX9_hand_82 rfl rfl ?_
        refine z_iload_n 84 dX9_hand_83 rfl rfl ?_
        refine z_ri dX9_hand_84 rfl ?_
        exact qxa hW e0 hR (hF.mono (by unfold xS; intros; omega))
      · (try rw [nI_leI (by omega) (by omega)] at h44)
        omega
    · have hb1 := hob i
      have hb2 := hob (amn (hO S p) i)
      refine z_iload 42 dX9_hand_40 rfl rfl ?_
      refine z_bipush 44 (v := nI 6) dX9_hand_42 rfl rfl ?_
      refine z_icmp_ge 74 47 dX9_hand_44 (by decide) rfl (fun h44 => ?_) (fun h44 => ?_)
      · (try rw [nI_leI (by omega) (by omega)] at h44)
        omega
      · (try rw [nI_leI (by omega) (by omega)] at h44)
        refine z_aload_n 48 dX9_hand_47 rfl rfl ?_
        refine z_iload_n 49 dX9_hand_48 rfl rfl ?_
        refine z_iload 51 dX9_hand_49 rfl rfl ?_
        refine z_cVI2 54 (tX9_handOff hW hR hp (show i < 6 by omega)) kX9_handOff dX9_hand_51 rfl lX9_331 (by first | assumption | rfl) (Nat.le_of_ble_eq_true rfl) ?_
        rintro _ τ1 ⟨e1, hF1, hX1⟩
        subst e1
        have hF2 : Fr xS σ τ1 := hF.tr hF1 (fun _ _ h => h) (fun _ _ h => h)
        rw [show hOff S p i (sLc S) = hO S p i from rfl]
        refine zs_istore_5_6 56 rfl dX9_hand_54 rfl rfl ?_
        refine z_iload 58 dX9_hand_56 rfl rfl ?_
        refine z_iload_n 59 dX9_hand_58 rfl rfl ?_
        refine z_icmp_ge 68 62 dX9_hand_59 (by decide) rfl (fun h59 => ?_) (fun h59 => ?_)
        · (try rw [nI_leI (by omega) (by omega)] at h59)
          have er : amn (hO S p) (i + 1) = amn (hO S p) i := if_neg (by omega)
          refine zs_iinc_4_6_1 71 rfl dX9_hand_68 rfl rfl ?_
          rw [nI_add]
          refine z_goto 40 dX9_hand_71 rfl ?_
          have hih := ih (i + 1) (by omega) (by omega) (some (.int (nI (hO S p i)))) τ1 hF2 hX1
          rw [er] at hih
          exact hih
        · (try rw [nI_leI (by omega) (by omega)] at h59)
          have er : amn (hO S p) (i + 1) = i := if_pos (by omega)
          refine z_iload 64 dX9_hand_62 rfl rfl ?_
          refine zs_istore_n_3_6 65 rfl dX9_hand_64 rfl rfl ?_
          refine z_iload 67 dX9_hand_65 rfl rfl ?_
          refine zs_istore_n_2_6 68 rfl dX9_hand_67 rfl rfl ?_
          refine zs_iinc_4_6_1 71 rfl dX9_hand_68 rfl rfl ?_
          rw [nI_add]
          refine z_goto 40 dX9_hand_71 rfl ?_
          have hih := ih (i + 1) (by omega) (by omega) (some (.int (nI (hO S p i)))) τ1 hF2 hX1
          rw [er] at hih
          exact hih
  refine z_aload_n 1 dX9_hand_0 rfl rfl ?_
  refine z_iload_n 2 dX9_hand_1 rfl rfl ?_
  refine z_cVI1 5 (tX9_isPl (by assumption) (by assumption)) kX9_isPlayer dX9_hand_2 rfl lX9_176 (by first | assumption | rfl) (Nat.le_of_ble_eq_true rfl) ?_
  rintro _ _ ⟨e1, e2⟩
  replace e1 := e1.symm
  replace e2 := e2.symm
  subst e1
  subst e2
  refine z_ifb_ne 10 8 dX9_hand_5 (by decide) rfl (fun h5 => ?_) (fun h5 => ?_)
  · refine z_aload_n 11 dX9_hand_10 rfl rfl ?_
    refine z_iload_n 12 dX9_hand_11 rfl rfl ?_
    refine z_iconst 13 (v := nI 0) dX9_hand_12 rfl rfl ?_
    refine z_cVI2 16 (tX9_leavesOf (k := false) hW hX hp) kX9_leavesOf dX9_hand_13 rfl lX9_327 (by first | assumption | rfl) (Nat.le_of_ble_eq_true rfl) ?_
    rintro _ _ ⟨e1, e2⟩
    replace e1 := e1.symm
    replace e2 := e2.symm
    subst e1
    subst e2
    refine z_if_ne 28 19 dX9_hand_16 (by decide) rfl (fun h16 => ?_) (fun h16 => ?_)
    · (try rw [nI_eq0 (by omega)] at h16)
      refine z_iconst 29 (v := nI 0) dX9_hand_28 rfl rfl ?_
      refine zs_istore_n_2_6 30 rfl dX9_hand_29 rfl rfl ?_
      refine z_aload_n 31 dX9_hand_30 rfl rfl ?_
      refine z_iload_n 32 dX9_hand_31 rfl rfl ?_
      refine z_iconst 33 (v := nI 0) dX9_hand_32 rfl rfl ?_
      refine z_cVI2 36 (tX9_handOff hW hX hp (show 0 < 6 by omega)) kX9_handOff dX9_hand_33 rfl lX9_331 (by first | assumption | rfl) (Nat.le_of_ble_eq_true rfl) ?_
      rintro _ τ1 ⟨e1, hF1, hX1⟩
      subst e1
      refine zs_istore_n_3_6 37 rfl dX9_hand_36 rfl rfl ?_
      refine z_iconst 38 (v := nI 1) dX9_hand_37 rfl rfl ?_
      refine zs_istore_4_6 40 rfl dX9_hand_38 rfl rfl ?_
      have hl1 := loop 1 (by omega) none τ1 hF1 hX1
      rw [show amn (hO S p) 1 = 0 from if_neg (Nat.lt_irrefl _)] at hl1
      exact hl1
    · (try rw [nI_eq0 (by omega)] at h16)
      exact absurd h16 hZ
  · exact absurd hA' h5
