/-! hand of the reference -/
set_option maxRecDepth 20000 in
theorem tX10_tryAs {E : zE} {d : Nat} {σ : zM} {S : sS} {p k : Nat} (hW : WF S) (hX : RM S σ) (hp : p < sPc S) : Ret E mX10_tryAs (d + 1) [zr E 102, .int (nI p), .int (nI k)] σ (qV fun τ => Fr (fun x y => x = 111 ∧ 32 ≤ y ∧ y < 36) σ τ ∧ RM S τ ∧ mPy τ 8 (lk S p k)) := by
  have h8 := hW.2.1.1
  obtain ⟨a1, a2, a3, a4⟩ := hX.py hp
  refine Ret.of [some (zr E 102), some (.int (nI p)), some (.int (nI k))] (by decide +kernel) (Nat.le_of_ble_eq_true rfl) rfl ?_
  refine z_aload_n 1 dX10_tryAs_0 rfl rfl ?_
  refine z_bipush 3 (v := nI 8) dX10_tryAs_1 rfl rfl ?_
  refine z_iload_n 4 dX10_tryAs_3 rfl rfl ?_
  refine z_aload_n 5 dX10_tryAs_4 rfl rfl ?_
  refine z_iload_n 6 dX10_tryAs_5 rfl rfl ?_
  refine z_iconst 7 (v := nI 1) dX10_tryAs_6 rfl rfl ?_
  refine z_cVI2 10 (tX10_tell (by omega) (by omega)) kX10_tell dX10_tryAs_7 rfl lX10_165 (by first | assumption | rfl) (Nat.le_of_ble_eq_true rfl) ?_
  rintro _ _ ⟨e1, e2⟩
  replace e1 := e1.symm
  replace e2 := e2.symm
  subst e1
  subst e2
  rw [a2]
  refine z_aload_n 11 dX10_tryAs_10 rfl rfl ?_
  refine z_iload_n 12 dX10_tryAs_11 rfl rfl ?_
  refine z_iconst 13 (v := nI 2) dX10_tryAs_12 rfl rfl ?_
  refine z_cVI2 16 (tX10_tell (by omega) (by omega)) kX10_tell dX10_tryAs_13 rfl lX10_165 (by first | assumption | rfl) (Nat.le_of_ble_eq_true rfl) ?_
  rintro _ _ ⟨e1, e2⟩
  replace e1 := e1.symm
  replace e2 := e2.symm
  subst e1
  subst e2
  rw [a3]
  refine z_aload_n 17 dX10_tryAs_16 rfl rfl ?_
  refine z_iload_n 18 dX10_tryAs_17 rfl rfl ?_
  refine z_iconst 19 (v := nI 3) dX10_tryAs_18 rfl rfl ?_
  refine z_cVI2 22 (tX10_tell (by omega) (by omega)) kX10_tell dX10_tryAs_19 rfl lX10_165 (by first | assumption | rfl) (Nat.le_of_ble_eq_true rfl) ?_
  rintro _ _ ⟨e1, e2⟩
  replace e1 := e1.symm
  replace e2 := e2.symm
  subst e1
  subst e2
  rw [a4]
  refine z_cVV5 25 (tX10_setPlayer (by omega)) kX10_setPlayer dX10_tryAs_22 rfl lX10_158 (by first | assumption | rfl) (Nat.le_of_ble_eq_true rfl) ?_
  rintro _ e2
  replace e2 := e2.symm
  subst e2
  refine z_rv dX10_tryAs_25 rfl ?_
  have hf := mSt_fr σ 8 k (sPl S p).2.1 (sPl S p).2.2.1 (sPl S p).2.2.2
  exact ⟨hf.mono (by intros; omega), hX.scr hW (hf.mono (by unfold mS; intros; omega)), mSt_py σ 8 k (sPl S p).2.1 (sPl S p).2.2.1 (sPl S p).2.2.2⟩
set_option maxRecDepth 20000 in
theorem tX10_hand {E : zE} {d : Nat} {σ : zM} {S : sS} {p : Int32} (hW : WF S) (hX : RM S σ) : Ret E mX10_hand (d + 4) [zr E 102, .int p] σ (qM σ (spHand S p)) := by
  have h8 := hW.2.1.1
  have h12 := hW.2.2.1
  have hb8 := bw_le hW (show 0 < 2 by omega)
  by_cases hA : ¬ inN p (sPc S)
  · refine Ret.of [some (zr E 102), some (.int p), none, none, none, none, none] (by decide +kernel) (Nat.le_of_ble_eq_true rfl) rfl ?_
    refine z_aload_n 1 dX10_hand_0 rfl rfl ?_
    refine z_iload_n 2 dX10_hand_1 rfl rfl ?_
    refine z_cVI1 5 (tX10_isPlayer (by assumption) (by assumption)) kX10_isPlayer dX10_hand_2 rfl lX10_162 (by first | assumption | rfl) (Nat.le_of_ble_eq_true rfl) ?_
    rintro _ _ ⟨e1, e2⟩
    replace e1 := e1.symm
    replace e2 := e2.symm
    subst e1
    subst e2
    refine z_ifb_ne 10 8 dX10_hand_5 (by decide) rfl (fun h5 => ?_) (fun h5 => ?_)
    · exact absurd h5 hA
    · refine z_iconst 9 (v := (-1)) dX10_hand_8 rfl rfl ?_
      refine z_ri dX10_hand_9 rfl ?_
      exact qm0 (if_pos hA) hX Fr.rf
  have e0 : spHand S p = _ := if_neg hA
  have hA := Classical.not_not.mp hA
  have hA' := hA
  obtain ⟨p, hp, rfl⟩ := inN_of hA
  rw [zx_nI (by omega)] at e0
  have hlv := lvs_le S false p (sLc S)
  have hob : ∀ k, hO S p k ≤ 120 := fun k => by have h : hO S p k ≤ 10 * sLc S := hOff_le S p k (sLc S); omega
  refine Ret.of [some (zr E 102), some (.int (nI p)), none, none, none, none, none] (by decide +kernel) (Nat.le_of_ble_eq_true rfl) rfl ?_
  by_cases hZ : lvs S false p (sLc S) = 0
  · rw [if_pos hZ] at e0
    refine z_aload_n 1 dX10_hand_0 rfl rfl ?_
    refine z_iload_n 2 dX10_hand_1 rfl rfl ?_
    refine z_cVI1 5 (tX10_isPlayer (by assumption) (by assumption)) kX10_isPlayer dX10_hand_2 rfl lX10_162 (by first | assumption | rfl) (Nat.le_of_ble_eq_true rfl) ?_
    rintro _ _ ⟨e1, e2⟩
    replace e1 := e1.symm
    replace e2 := e2.symm
    subst e1
    subst e2
    refine z_ifb_ne 10 8 dX10_hand_5 (by decide) rfl (fun h5 => ?_) (fun h5 => ?_)
    · refine z_aload_n 11 dX10_hand_10 rfl rfl ?_
      refine z_iconst 12 (v := nI 0) dX10_hand_11 rfl rfl ?_
      refine z_iload_n 13 dX10_hand_12 rfl rfl ?_
      refine z_cVI2 16 (tX10_leavesOf (k := false) hW hX hp) kX10_leavesOf dX10_hand_13 rfl lX10_310 (by first | assumption | rfl) (Nat.le_of_ble_eq_true rfl) ?_
      rintro _ _ ⟨e1, e2⟩
      replace e1 := e1.symm
      replace e2 := e2.symm
      subst e1
      subst e2
      refine z_if_ne 25 19 dX10_hand_16 (by decide) rfl (fun h16 => ?_) (fun h16 => ?_)
      · (try rw [nI_eq0 (by omega)] at h16)
        exact absurd hZ h16
      · (try rw [nI_eq0 (by omega)] at h16)
        refine z_aload_n 20 dX10_hand_19 rfl rfl ?_
        refine z_iconst 21 (v := nI 4) dX10_hand_20 rfl rfl ?_
        refine z_cVI1 24 (tX10_meets (by omega)) kX10_meets dX10_hand_21 rfl lX10_99 (by first | assumption | rfl) (Nat.le_of_ble_eq_true rfl) ?_
        rintro _ _ ⟨e1, e2⟩
        replace e1 := e1.symm
        replace e2 := e2.symm
        subst e1
        subst e2
        refine z_ri dX10_hand_24 rfl ?_
        exact qmf hW e0 (by decide) hX Fr.rf
    · exact absurd hA' h5
  rw [if_neg hZ] at e0
  have outer : ∀ i, i ≤ 6 → ∀ (b2 b3 : Int32) y5 y6 τ, (i = 0 ∧ b2 = -9 ∨ 0 < i ∧ b2 = nI (amn (hO S p) i) ∧ b3 = nI (hO S p (amn (hO S p) i))) → Fr mS σ τ → RM S τ → At E mX10_hand (d + 4) (qM σ (spHand S (nI p))) 33 [some (zr E 102), some (.int (nI p)), some (.int b2), some (.int b3), some (.int (nI i)), y5, y6] [] τ := by
    refine z_up (fun i hi oh b2 b3 y5 y6 τ hb hF hR => ?_)
    by_cases hie : i = 6
    · subst hie
      obtain ⟨_, rfl, rfl⟩ := hb.resolve_left (fun z => absurd z.1 (by decide))
      refine z_iload 35 dX10_hand_33 rfl rfl ?_
      refine z_bipush 37 (v := nI 6) dX10_hand_35 rfl rfl ?_
      refine z_icmp_ge 132 40 dX10_hand_37 (by decide) rfl (fun h37 => ?_) (fun h37 => ?_)
      · (try rw [nI_leI (by omega) (by omega)] at h37)
        refine z_aload_n 133 dX10_hand_132 rfl rfl ?_
        refine z_iload_n 134 dX10_hand_133 rfl rfl ?_
        refine z_iload_n 135 dX10_hand_134 rfl rfl ?_
        refine z_cVI2 138 (tX10_ask) kX10_ask dX10_hand_135 rfl lX10_117 (by first | assumption | rfl) (Nat.le_of_ble_eq_true rfl) ?_
        rintro _ _ ⟨e1, e2⟩
        replace e1 := e1.symm
        replace e2 := e2.symm
        subst e1
        subst e2
        refine z_ri dX10_hand_138 rfl ?_
        exact qma hW e0 hR (hF.mono (by unfold mS; intros; omega))
      · (try rw [nI_leI (by omega) (by omega)] at h37)
        omega
    · have hi6 : i < 6 := by omega
      obtain ⟨o1, o2, o3, o4, o5⟩ := lkOK hW hp hi6
      have hb1 := hob i
      have hb2 := hob (amn (hO S p) i)
      have hend : ∀ z6 τ, Fr mS σ τ → RM S τ → At E mX10_hand (d + 4) (qM σ (spHand S (nI p))) 108 [some (zr E 102), some (.int (nI p)), some (.int b2), some (.int b3), some (.int (nI i)), some (.int (nI (hO S p i))), z6] [] τ := by
        intro z6 τ hF hR
        rcases hb with ⟨h0, rfl⟩ | ⟨h0, rfl, rfl⟩
        · subst h0
          have er : amn (hO S p) 1 = 0 := if_neg (Nat.lt_irrefl _)
          refine z_iload_n 109 dX10_hand_108 rfl rfl ?_
          refine z_bipush 111 (v := (-9)) dX10_hand_109 rfl rfl ?_
          refine z_icmp_eq 120 114 dX10_hand_111 (by decide) rfl (fun h111 => ?_) (fun h111 => ?_)
          · refine z_iload 122 dX10_hand_120 rfl rfl ?_
            refine zs_istore_n_2_7 123 rfl dX10_hand_122 rfl rfl ?_
            refine z_iload 125 dX10_hand_123 rfl rfl ?_
            refine zs_istore_n_3_7 126 rfl dX10_hand_125 rfl rfl ?_
            refine zs_iinc_4_7_1 129 rfl dX10_hand_126 rfl rfl ?_
            rw [nI_add]
            refine z_goto 33 dX10_hand_129 rfl ?_
            exact oh 1 (by omega) (by omega) _ _ _ _ τ (Or.inr ⟨by omega, by rw [er], by rw [er]⟩) hF hR
          · exact absurd rfl h111
        · have hal := amn_lt (hO S p) i h0
          refine z_iload_n 109 dX10_hand_108 rfl rfl ?_
          refine z_bipush 111 (v := (-9)) dX10_hand_109 rfl rfl ?_
          refine z_icmp_eq 120 114 dX10_hand_111 (by decide) rfl (fun h111 => ?_) (fun h111 => ?_)
          · exact absurd (nI_pos' (show amn (hO S p) i < 2 ^ 31 by omega)) (by rw [h111]; decide)
          · refine z_iload 116 dX10_hand_114 rfl rfl ?_
            refine z_iload_n 117 dX10_hand_116 rfl rfl ?_
            refine z_icmp_ge 126 120 dX10_hand_117 (by decide) rfl (fun h117 => ?_) (fun h117 => ?_)
            · (try rw [nI_leI (by omega) (by omega)] at h117)
              have er : amn (hO S p) (i + 1) = amn (hO S p) i := if_neg (by omega)
              refine zs_iinc_4_7_1 129 rfl dX10_hand_126 rfl rfl ?_
              rw [nI_add]
              refine z_goto 33 dX10_hand_129 rfl ?_
              exact oh (i + 1) (by omega) (by omega) _ _ _ _ τ (Or.inr ⟨by omega, by rw [er], by rw [er]⟩) hF hR
            · (try rw [nI_leI (by omega) (by omega)] at h117)
              have er : amn (hO S p) (i + 1) = i := if_pos (by omega)
              refine z_iload 122 dX10_hand_120 rfl rfl ?_
              refine zs_istore_n_2_7 123 rfl dX10_hand_122 rfl rfl ?_
              refine z_iload 125 dX10_hand_123 rfl rfl ?_
              refine zs_istore_n_3_7 126 rfl dX10_hand_125 rfl rfl ?_
              refine zs_iinc_4_7_1 129 rfl dX10_hand_126 rfl rfl ?_
              rw [nI_add]
              refine z_goto 33 dX10_hand_129 rfl ?_
              exact oh (i + 1) (by omega) (by omega) _ _ _ _ τ (Or.inr ⟨by omega, by rw [er], by rw [er]⟩) hF hR
      have inner : ∀ j, j ≤ sLc S → ∀ τ, Fr mS σ τ → RM S τ → mPy τ 8 (lk S p i) → At E mX10_hand (d + 4) (qM σ (spHand S (nI p))) 53 [some (zr E 102), some (.int (nI p)), some (.int b2), some (.int b3), some (.int (nI i)), some (.int (nI (hOff S p i j))), some (.int (nI j))] [] τ := by
        refine z_up (fun j hj ih τ hF hR hP => ?_)
        have hlc : gi τ 102 35 = nI (sLc S) := hR.2.2.2.2.1.1
        by_cases hje : j = sLc S
        · subst hje
          refine z_iload 55 dX10_hand_53 rfl rfl ?_
          refine z_aload_n 56 dX10_hand_55 rfl rfl ?_
          refine gX10_141 59 rfl dX10_hand_56 rfl ?_
          rw [hlc]
          refine z_icmp_ge 108 62 dX10_hand_59 (by decide) rfl (fun h59 => ?_) (fun h59 => ?_)
          · (try rw [nI_leI (by omega) (by omega)] at h59)
            exact hend _ τ hF hR
          · (try rw [nI_leI (by omega) (by omega)] at h59)
            omega
        · have hjl : j < sLc S := by omega
          have hww := lfWord hW hjl
          have hul := usLe hW hp hww
          have hwrd : gi τ 124 (12 * j + 2) = nI (sLf S j).2.2.1 := (hR.2.2.2.2.1.2 j hjl).2.2.1
          have hll : ∀ x ∈ dL S p i (sLf S j).2.2.1, x < 10 := fun x hx => dList_lt hul hx
          have hpl : pset (sLf S j).2.2.2.2.1 (sLf S j).2.2.2.1 < 2 ^ 10 := pset_lt _ 10 _ (fun i hi => ((lfPts hW hjl).2.2 i hi).1)
          have hx : bset (dL S p i (sLf S j).2.2.1) ^^^ pset (sLf S j).2.2.2.2.1 (sLf S j).2.2.2.1 < 1024 := Nat.xor_lt_two_pow (n := 10) (bset_lt hll) hpl
          have hu : pop (bset (dL S p i (sLf S j).2.2.1) ^^^ pset (sLf S j).2.2.2.2.1 (sLf S j).2.2.2.1) = unl S p i j := by rw [Nat.xor_comm]; rfl
          refine z_iload 55 dX10_hand_53 rfl rfl ?_
          refine z_aload_n 56 dX10_hand_55 rfl rfl ?_
          refine gX10_141 59 rfl dX10_hand_56 rfl ?_
          rw [hlc]
          refine z_icmp_ge 108 62 dX10_hand_59 (by decide) rfl (fun h59 => ?_) (fun h59 => ?_)
          · (try rw [nI_leI (by omega) (by omega)] at h59)
            omega
          · (try rw [nI_leI (by omega) (by omega)] at h59)
            refine z_aload_n 63 dX10_hand_62 rfl rfl ?_
            refine z_iload 65 dX10_hand_63 rfl rfl ?_
            refine z_iconst 66 (v := nI 0) dX10_hand_65 rfl rfl ?_
            refine z_iload_n 67 dX10_hand_66 rfl rfl ?_
            refine z_cVI3 70 (tX10_isLeafOf (k := false) hW hR hjl hp) kX10_isLeafOf dX10_hand_67 rfl lX10_307 (by first | assumption | rfl) (Nat.le_of_ble_eq_true rfl) ?_
            rintro _ _ ⟨e1, e2⟩
            replace e1 := e1.symm
            replace e2 := e2.symm
            subst e1
            subst e2
            refine z_ifb_eq 102 73 dX10_hand_70 (by decide) rfl (fun h70 => ?_) (fun h70 => ?_)
            · have er : hOff S p i (j + 1) = hOff S p i j := by (show hOff S p i j + (if lOf S false p j then unl S p i j else 0) = _; rw [if_neg h70, Nat.add_zero])
              refine zs_iinc_6_7_1 105 rfl dX10_hand_102 rfl rfl ?_
              rw [nI_add]
              refine z_goto 53 dX10_hand_105 rfl ?_
              first
                | (have hih := ih (j + 1) (by omega) (by omega) τ hF hR hP
                   rw [er] at hih
                   exact hih)
                | (have hih := ih (j + 1) (by omega) (by omega) τ1 (hF.tr hF1 (fun _ _ h => h) (by unfold mS; intros; omega)) hX1 (hP.fr hF1 (by intros; omega))
                   rw [er] at hih
                   exact hih)
            · have er : hOff S p i (j + 1) = hOff S p i j + unl S p i j := by (show hOff S p i j + (if lOf S false p j then unl S p i j else 0) = _; rw [if_pos h70])
              refine z_iload 75 dX10_hand_73 rfl rfl ?_
              refine z_aload_n 76 dX10_hand_75 rfl rfl ?_
              refine z_bipush 78 (v := nI 8) dX10_hand_76 rfl rfl ?_
              refine z_aload_n 79 dX10_hand_78 rfl rfl ?_
              refine z_iload 81 dX10_hand_79 rfl rfl ?_
              refine z_iconst 82 (v := nI 2) dX10_hand_81 rfl rfl ?_
              refine z_cVI2 85 (tX10_leafTells (by omega) (by omega)) kX10_leafTells dX10_hand_82 rfl lX10_304 (by first | assumption | rfl) (Nat.le_of_ble_eq_true rfl) ?_
              rintro _ _ ⟨e1, e2⟩
              replace e1 := e1.symm
              replace e2 := e2.symm
              subst e1
              subst e2
              rw [hwrd]
              refine z_cVI2 88 (tX10_drawingSet (p := 8) (bw := sBw S 0) (u := sUs S (sPl S p).2.1) (by omega) hP o1 o2 o3 o4 (hR.bxp hW hp) hww hul) kX10_drawingSet dX10_hand_85 rfl lX10_181 (by first | assumption | rfl) (Nat.le_of_ble_eq_true rfl) ?_
              rintro _ τ1 ⟨e1, hF1, hD1⟩
              subst e1
              have hX1 : RM S τ1 := hR.scr hW (hF1.mono (by unfold mS; intros; omega))
              refine z_aload_n 89 dX10_hand_88 rfl rfl ?_
              refine z_iload 91 dX10_hand_89 rfl rfl ?_
              refine z_iconst 92 (v := nI 3) dX10_hand_91 rfl rfl ?_
              refine z_cVI2 95 (tX10_leafTells (by omega) (by omega)) kX10_leafTells dX10_hand_92 rfl lX10_304 (by first | assumption | rfl) (Nat.le_of_ble_eq_true rfl) ?_
              rintro _ _ ⟨e1, e2⟩
              replace e1 := e1.symm
              replace e2 := e2.symm
              subst e1
              subst e2
              rw [show gi τ1 124 (12 * j + 3) = nI (pset (sLf S j).2.2.2.2.1 (sLf S j).2.2.2.1) from (hX1.2.2.2.2.1.2 j hjl).2.2.2.1, show dList (sUs S (sPl S p).2.1 (sLf S j).2.2.1) (dMost (lk S p i)) = dL S p i (sLf S j).2.2.1 from rfl]
              refine z_ixor 96 dX10_hand_95 rfl ?_
              rw [zb_xor]
              refine z_cSI1 99 (tX10_sizeOf hx) kX10_sizeOf dX10_hand_96 rfl lX10_282 (Nat.le_of_ble_eq_true rfl) ?_
              rintro _ _ ⟨e1, e2⟩
              replace e1 := e1.symm
              replace e2 := e2.symm
              subst e1
              subst e2
              rw [hu]
              refine z_iadd 100 dX10_hand_99 rfl ?_
              rw [nI_add]
              refine zs_istore_5_7 102 rfl dX10_hand_100 rfl rfl ?_
              refine zs_iinc_6_7_1 105 rfl dX10_hand_102 rfl rfl ?_
              rw [nI_add]
              refine z_goto 53 dX10_hand_105 rfl ?_
              first
                | (have hih := ih (j + 1) (by omega) (by omega) τ hF hR hP
                   rw [er] at hih
                   exact hih)
                | (have hih := ih (j + 1) (by omega) (by omega) τ1 (hF.tr hF1 (fun _ _ h => h) (by unfold mS; intros; omega)) hX1 (hP.fr hF1 (by intros; omega))
                   rw [er] at hih
                   exact hih)
      refine z_iload 35 dX10_hand_33 rfl rfl ?_
      refine z_bipush 37 (v := nI 6) dX10_hand_35 rfl rfl ?_
      refine z_icmp_ge 132 40 dX10_hand_37 (by decide) rfl (fun h37 => ?_) (fun h37 => ?_)
      · (try rw [nI_leI (by omega) (by omega)] at h37)
        omega
      · (try rw [nI_leI (by omega) (by omega)] at h37)
        refine z_aload_n 41 dX10_hand_40 rfl rfl ?_
        refine z_iload_n 42 dX10_hand_41 rfl rfl ?_
        refine z_iload 44 dX10_hand_42 rfl rfl ?_
        refine z_cVV2 47 (tX10_tryAs hW hR hp) kX10_tryAs dX10_hand_44 rfl lX10_313 (by first | assumption | rfl) (Nat.le_of_ble_eq_true rfl) ?_
        rintro τ1 ⟨hF1, hX1, hP1⟩
        refine z_iconst 48 (v := nI 0) dX10_hand_47 rfl rfl ?_
        refine zs_istore_5_7 50 rfl dX10_hand_48 rfl rfl ?_
        refine z_iconst 51 (v := nI 0) dX10_hand_50 rfl rfl ?_
        refine zs_istore_6_7 53 rfl dX10_hand_51 rfl rfl ?_
        exact inner 0 (Nat.zero_le _) τ1 (hF.tr hF1 (fun _ _ h => h) (by unfold mS; intros; omega)) hX1 hP1
  refine z_aload_n 1 dX10_hand_0 rfl rfl ?_
  refine z_iload_n 2 dX10_hand_1 rfl rfl ?_
  refine z_cVI1 5 (tX10_isPlayer (by assumption) (by assumption)) kX10_isPlayer dX10_hand_2 rfl lX10_162 (by first | assumption | rfl) (Nat.le_of_ble_eq_true rfl) ?_
  rintro _ _ ⟨e1, e2⟩
  replace e1 := e1.symm
  replace e2 := e2.symm
  subst e1
  subst e2
  refine z_ifb_ne 10 8 dX10_hand_5 (by decide) rfl (fun h5 => ?_) (fun h5 => ?_)
  · refine z_aload_n 11 dX10_hand_10 rfl rfl ?_
    refine z_iconst 12 (v := nI 0) dX10_hand_11 rfl rfl ?_
    refine z_iload_n 13 dX10_hand_12 rfl rfl ?_
    refine z_cVI2 16 (tX10_leavesOf (k := false) hW hX hp) kX10_leavesOf dX10_hand_13 rfl lX10_310 (by first | assumption | rfl) (Nat.le_of_ble_eq_true rfl) ?_
    rintro _ _ ⟨e1, e2⟩
    replace e1 := e1.symm
    replace e2 := e2.symm
    subst e1
    subst e2
    refine z_if_ne 25 19 dX10_hand_16 (by decide) rfl (fun h16 => ?_) (fun h16 => ?_)
    · (try rw [nI_eq0 (by omega)] at h16)
      refine z_bipush 27 (v := (-9)) dX10_hand_25 rfl rfl ?_
      refine zs_istore_n_2_7 28 rfl dX10_hand_27 rfl rfl ?_
      refine z_iconst 29 (v := nI 0) dX10_hand_28 rfl rfl ?_
      refine zs_istore_n_3_7 30 rfl dX10_hand_29 rfl rfl ?_
      refine z_iconst 31 (v := nI 0) dX10_hand_30 rfl rfl ?_
      refine zs_istore_4_7 33 rfl dX10_hand_31 rfl rfl ?_
      exact outer 0 (Nat.zero_le _) _ _ _ _ σ (Or.inl ⟨rfl, rfl⟩) Fr.rf hX
    · (try rw [nI_eq0 (by omega)] at h16)
      exact absurd h16 hZ
  · exact absurd hA' h5
