/-! seats of the landed code, told -/
theorem st_get {S : sS} (hW : WF S) {n : Nat} {t b : Nat → Nat} (hT : TbOK S n t) (h6 : n ≤ 6) (hb : ∀ k, k < n → b k < sBw S 0) : ∃ q, (en (n - 1) 1 (n - 1) [0]).foldl (stB (kpT S t n b)) none = some q ∧ q.1 ≤ 2654208 ∧ q.2.1 ≤ 720 := by
  obtain ⟨g1, g2, g3, r0, g4⟩ := sOK_of (s_n hT.1 h6)
  have hbd := stB_bdL (K := kpT S t n b) (en (n - 1) 1 (n - 1) [0]) none 0 (fun q hq => absurd hq (fun z => nomatch z)) (fun l hl => kpT_le hW hT (okl_of (g2 l hl)) hb)
  have hne : (en (n - 1) 1 (n - 1) [0]).foldl (stB (kpT S t n b)) none ≠ none := by
    rw [g4]
    exact stB_some _ r0 _ (fun z => nomatch z)
  cases hA : (en (n - 1) 1 (n - 1) [0]).foldl (stB (kpT S t n b)) none with
  | none => exact absurd hA hne
  | some q =>
    rw [hA] at hbd
    obtain ⟨k1, k2⟩ := hbd q rfl
    exact ⟨q, rfl, k1, by omega⟩
set_option maxRecDepth 20000 in
theorem tX9_seats {E : zE} {d : Nat} {σ : zM} {S : sS} {r b c : Int32} (hW : WF S) (hX : RX S σ) : Ret E mX9_seats (d + 5) [zr E 0, .int r, .int b, .int c] σ (qX σ (spSeats S r b c)) := by
  have h8 := hW.2.1.1
  have hb8 := bw_le hW (show 0 < 2 by omega)
  by_cases hA : ¬ stOK3 r b c
  · refine Ret.of [some (zr E 0), some (.int r), some (.int b), some (.int c), none, none] (by decide +kernel) (Nat.le_of_ble_eq_true rfl) rfl ?_
    refine z_iload_n 1 dX9_seats_0 rfl rfl ?_
    refine z_cSI1 4 (tX9_isRow) kX9_isRow dX9_seats_1 rfl lX9_83 (Nat.le_of_ble_eq_true rfl) ?_
    rintro _ _ ⟨e1, e2⟩
    replace e1 := e1.symm
    replace e2 := e2.symm
    subst e1
    subst e2
    refine z_ifb_eq 21 7 dX9_seats_4 (by decide) rfl (fun h4 => ?_) (fun h4 => ?_)
    · refine z_iconst 22 (v := (-1)) dX9_seats_21 rfl rfl ?_
      refine z_ri dX9_seats_22 rfl ?_
      exact qx0 (if_pos hA) hX Fr.rf
    · refine z_iload_n 8 dX9_seats_7 rfl rfl ?_
      refine z_cSI1 11 (tX9_isRow) kX9_isRow dX9_seats_8 rfl lX9_83 (Nat.le_of_ble_eq_true rfl) ?_
      rintro _ _ ⟨e1, e2⟩
      replace e1 := e1.symm
      replace e2 := e2.symm
      subst e1
      subst e2
      refine z_ifb_eq 21 14 dX9_seats_11 (by decide) rfl (fun h11 => ?_) (fun h11 => ?_)
      · refine z_iconst 22 (v := (-1)) dX9_seats_21 rfl rfl ?_
        refine z_ri dX9_seats_22 rfl ?_
        exact qx0 (if_pos hA) hX Fr.rf
      · refine z_iload_n 15 dX9_seats_14 rfl rfl ?_
        refine z_cSI1 18 (tX9_isRow) kX9_isRow dX9_seats_15 rfl lX9_83 (Nat.le_of_ble_eq_true rfl) ?_
        rintro _ _ ⟨e1, e2⟩
        replace e1 := e1.symm
        replace e2 := e2.symm
        subst e1
        subst e2
        refine z_ifb_ne 23 21 dX9_seats_18 (by decide) rfl (fun h18 => ?_) (fun h18 => ?_)
        · exact absurd ⟨h4, h11, h18⟩ hA
        · refine z_iconst 22 (v := (-1)) dX9_seats_21 rfl rfl ?_
          refine z_ri dX9_seats_22 rfl ?_
          exact qx0 (if_pos hA) hX Fr.rf
  have e0 : spSeats S r b c = _ := if_neg hA
  obtain ⟨b1, b2, b3⟩ := Classical.not_not.mp hA
  obtain ⟨r, hr, rfl⟩ := inN_of b1
  obtain ⟨b, hb, rfl⟩ := inN_of b2
  obtain ⟨c, hc, rfl⟩ := inN_of b3
  have b1 : inN (nI r) 6 := inN_nI hr (by omega)
  have b2 : inN (nI b) 6 := inN_nI hb (by omega)
  have b3 : inN (nI c) 6 := inN_nI hc (by omega)
  rw [zx_nI (by omega), zx_nI (by omega), zx_nI (by omega)] at e0
  have hpl := sPd_lt S (sR S r) (sR S b)
  have hkr := kd_r hr
  have hkb := kd_r hb
  have hkc := kd_r hc
  have hkc1 := kd_r1 hc
  refine Ret.of [some (zr E 0), some (.int (nI r)), some (.int (nI b)), some (.int (nI c)), none, none] (by decide +kernel) (Nat.le_of_ble_eq_true rfl) rfl ?_
  by_cases hD : sPd S (sR S r) (sR S b) = 0
  · rw [if_neg (fun z => z hD)] at e0
    obtain ⟨q0, p0, hq0, hp0, hpq, hTf, hpw⟩ := sPd0 hD
    obtain ⟨q, hq, hT, hqg⟩ := sTf0 hTf
    have hsz : sSz (sR S r) = q.1 := by rw [hq]; rfl
    have hqq : q0.1 = q.1 := by rw [hq0] at hq; rw [Option.some.inj hq]
    have hsg : gi σ (24 + 2 * r) 1 = nI q.1 := by
      have h1 := hX.1 r hr
      rw [show S.1 r = sR S r from rfl, hq] at h1
      exact h1.2.1
    have hp4 : p0.1 ≤ 40 := by
      have h1 := hX.1 b hb
      rw [show S.1 b = sR S b from rfl, hp0] at h1
      exact h1.1
    have hP : PdOK S (sR S b) q.1 := by rw [hp0]; exact pd_of (by omega) hp4 hb8 hpw
    have hpb : ∀ k, k < q.1 → gOf (sR S b) k < sBw S 0 := by
      obtain ⟨p, hp, hpn, hp4, hpv⟩ := hP
      exact fun k hk => (hpv k hk).2
    have n2 := hT.1.1
    have n8 := hT.1.2.1
    have o2 := p24 (show q.1 / 2 ≤ 4 by omega)
    rw [hsz] at e0
    by_cases h6 : 6 < q.1
    · rw [if_pos h6] at e0
      refine z_iload_n 1 dX9_seats_0 rfl rfl ?_
      refine z_cSI1 4 (tX9_isRow) kX9_isRow dX9_seats_1 rfl lX9_83 (Nat.le_of_ble_eq_true rfl) ?_
      rintro _ _ ⟨e1, e2⟩
      replace e1 := e1.symm
      replace e2 := e2.symm
      subst e1
      subst e2
      refine z_ifb_eq 21 7 dX9_seats_4 (by decide) rfl (fun h4 => ?_) (fun h4 => ?_)
      · exact absurd b1 h4
      · refine z_iload_n 8 dX9_seats_7 rfl rfl ?_
        refine z_cSI1 11 (tX9_isRow) kX9_isRow dX9_seats_8 rfl lX9_83 (Nat.le_of_ble_eq_true rfl) ?_
        rintro _ _ ⟨e1, e2⟩
        replace e1 := e1.symm
        replace e2 := e2.symm
        subst e1
        subst e2
        refine z_ifb_eq 21 14 dX9_seats_11 (by decide) rfl (fun h11 => ?_) (fun h11 => ?_)
        · exact absurd b2 h11
        · refine z_iload_n 15 dX9_seats_14 rfl rfl ?_
          refine z_cSI1 18 (tX9_isRow) kX9_isRow dX9_seats_15 rfl lX9_83 (Nat.le_of_ble_eq_true rfl) ?_
          rintro _ _ ⟨e1, e2⟩
          replace e1 := e1.symm
          replace e2 := e2.symm
          subst e1
          subst e2
          refine z_ifb_ne 23 21 dX9_seats_18 (by decide) rfl (fun h18 => ?_) (fun h18 => ?_)
          · refine z_aload_n 24 dX9_seats_23 rfl rfl ?_
            refine z_iload_n 25 dX9_seats_24 rfl rfl ?_
            refine z_iload_n 26 dX9_seats_25 rfl rfl ?_
            refine z_cVI2 29 (tX9_padsFault hW hX hr hb) kX9_padsFault dX9_seats_26 rfl lX9_264 (by first | assumption | rfl) (Nat.le_of_ble_eq_true rfl) ?_
            rintro _ _ ⟨e1, e2⟩
            replace e1 := e1.symm
            replace e2 := e2.symm
            subst e1
            subst e2
            rw [hD]
            refine zs_istore_4_6 31 rfl dX9_seats_29 rfl rfl ?_
            refine z_iload 33 dX9_seats_31 rfl rfl ?_
            refine z_if_eq 46 36 dX9_seats_33 (by decide) rfl (fun h33 => ?_) (fun h33 => ?_)
            · (try rw [nI_eq0 (by omega)] at h33)
              refine z_aload_n 47 dX9_seats_46 rfl rfl ?_
              refine gX9_11 50 rfl dX9_seats_47 rfl ?_
              refine z_iload_n 51 dX9_seats_50 rfl rfl ?_
              refine z_aald1 52 dX9_seats_51 rfl (by omega) ?_
              refine gX9_128 55 rfl dX9_seats_52 rfl (by first | assumption | rfl) ?_
              rw [hsg]
              refine z_bipush 57 (v := nI 6) dX9_seats_55 rfl rfl ?_
              refine z_icmp_le 63 60 dX9_seats_57 (by decide) rfl (fun h57 => ?_) (fun h57 => ?_)
              · (try rw [nI_leI (by omega) (by omega)] at h57)
                omega
              · (try rw [nI_leI (by omega) (by omega)] at h57)
                refine z_bipush 62 (v := (-6)) dX9_seats_60 rfl rfl ?_
                refine z_ri dX9_seats_62 rfl ?_
                exact qx0 e0 hX Fr.rf
            · (try rw [nI_eq0 (by omega)] at h33)
              exact absurd rfl h33
          · exact absurd b3 h18
    · rw [if_neg h6] at e0
      have h6 : q.1 ≤ 6 := by omega
      obtain ⟨A, hA, hA1, hA2⟩ := st_get hW hT h6 hpb
      have hA' : stR2 S (sR S r) (sR S b) = some A := by unfold stR2; rw [hsz]; exact hA
      rw [hA', show stO S (sR S r) c (some A) = sTell (setR S c (some (q.1, fun x => nI (tbL S (gOf (sR S r)) q.1 A.2.2 x)))) A.1 (24 ^ (q.1 / 2)) (nI A.2.1) by show sTell _ _ _ _ = _; unfold whR; rw [hsz]] at e0
      refine z_iload_n 1 dX9_seats_0 rfl rfl ?_
      refine z_cSI1 4 (tX9_isRow) kX9_isRow dX9_seats_1 rfl lX9_83 (Nat.le_of_ble_eq_true rfl) ?_
      rintro _ _ ⟨e1, e2⟩
      replace e1 := e1.symm
      replace e2 := e2.symm
      subst e1
      subst e2
      refine z_ifb_eq 21 7 dX9_seats_4 (by decide) rfl (fun h4 => ?_) (fun h4 => ?_)
      · exact absurd b1 h4
      · refine z_iload_n 8 dX9_seats_7 rfl rfl ?_
        refine z_cSI1 11 (tX9_isRow) kX9_isRow dX9_seats_8 rfl lX9_83 (Nat.le_of_ble_eq_true rfl) ?_
        rintro _ _ ⟨e1, e2⟩
        replace e1 := e1.symm
        replace e2 := e2.symm
        subst e1
        subst e2
        refine z_ifb_eq 21 14 dX9_seats_11 (by decide) rfl (fun h11 => ?_) (fun h11 => ?_)
        · exact absurd b2 h11
        · refine z_iload_n 15 dX9_seats_14 rfl rfl ?_
          refine z_cSI1 18 (tX9_isRow) kX9_isRow dX9_seats_15 rfl lX9_83 (Nat.le_of_ble_eq_true rfl) ?_
          rintro _ _ ⟨e1, e2⟩
          replace e1 := e1.symm
          replace e2 := e2.symm
          subst e1
          subst e2
          refine z_ifb_ne 23 21 dX9_seats_18 (by decide) rfl (fun h18 => ?_) (fun h18 => ?_)
          · refine z_aload_n 24 dX9_seats_23 rfl rfl ?_
            refine z_iload_n 25 dX9_seats_24 rfl rfl ?_
            refine z_iload_n 26 dX9_seats_25 rfl rfl ?_
            refine z_cVI2 29 (tX9_padsFault hW hX hr hb) kX9_padsFault dX9_seats_26 rfl lX9_264 (by first | assumption | rfl) (Nat.le_of_ble_eq_true rfl) ?_
            rintro _ _ ⟨e1, e2⟩
            replace e1 := e1.symm
            replace e2 := e2.symm
            subst e1
            subst e2
            rw [hD]
            refine zs_istore_4_6 31 rfl dX9_seats_29 rfl rfl ?_
            refine z_iload 33 dX9_seats_31 rfl rfl ?_
            refine z_if_eq 46 36 dX9_seats_33 (by decide) rfl (fun h33 => ?_) (fun h33 => ?_)
            · (try rw [nI_eq0 (by omega)] at h33)
              refine z_aload_n 47 dX9_seats_46 rfl rfl ?_
              refine gX9_11 50 rfl dX9_seats_47 rfl ?_
              refine z_iload_n 51 dX9_seats_50 rfl rfl ?_
              refine z_aald1 52 dX9_seats_51 rfl (by omega) ?_
              refine gX9_128 55 rfl dX9_seats_52 rfl (by first | assumption | rfl) ?_
              rw [hsg]
              refine z_bipush 57 (v := nI 6) dX9_seats_55 rfl rfl ?_
              refine z_icmp_le 63 60 dX9_seats_57 (by decide) rfl (fun h57 => ?_) (fun h57 => ?_)
              · (try rw [nI_leI (by omega) (by omega)] at h57)
                refine z_aload_n 64 dX9_seats_63 rfl rfl ?_
                refine z_iload_n 65 dX9_seats_64 rfl rfl ?_
                refine z_cVV1 68 (tX9_seatTable (t := gOf (sR S r)) hW hX hr hq hT hqg) kX9_seatTable dX9_seats_65 rfl lX9_236 (by first | assumption | rfl) (Nat.le_of_ble_eq_true rfl) ?_
                rintro τ1 ⟨hF1, hX1, hD1, hS1⟩
                refine z_aload_n 69 dX9_seats_68 rfl rfl ?_
                refine z_cVV0 72 (tX9_learnAllSteps hW hX1 hT hD1) kX9_learnAllSteps dX9_seats_69 rfl lX9_270 (by first | assumption | rfl) (Nat.le_of_ble_eq_true rfl) ?_
                rintro τ2 ⟨hF2, hX2, hD2, hS2⟩
                refine z_aload_n 73 dX9_seats_72 rfl rfl ?_
                refine gX9_60 76 rfl dX9_seats_73 rfl ?_
                refine z_aload_n 77 dX9_seats_76 rfl rfl ?_
                refine gX9_11 80 rfl dX9_seats_77 rfl ?_
                refine z_iload_n 81 dX9_seats_80 rfl rfl ?_
                refine z_aald1 82 dX9_seats_81 rfl (by omega) ?_
                refine z_cVI1 85 (tX5_seatBest hW hX2 hT h6 hD2 hS2 hb hP) kX5_seatBest dX9_seats_82 rfl lX9_273 (by first | assumption | rfl) (Nat.le_of_ble_eq_true rfl) ?_
                rintro x3 τ3 ⟨e3, hF3, hX3, hx3⟩
                rw [hA] at e3 hx3
                replace e3 : x3 = nI A.2.1 := e3
                subst e3
                have hbk : gl τ3 13 7 = lN A.1 := hx3.1
                have hn3 : gi τ3 13 5 = nI q.1 := (hF3.gi (by omega)).trans hD2.1
                refine zs_istore_5_6 87 rfl dX9_seats_85 rfl rfl ?_
                refine z_aload_n 88 dX9_seats_87 rfl rfl ?_
                refine gX9_39 91 rfl dX9_seats_88 rfl ?_
                refine z_aload_n 92 dX9_seats_91 rfl rfl ?_
                refine gX9_60 95 rfl dX9_seats_92 rfl ?_
                refine gX9_277 98 rfl dX9_seats_95 rfl (by first | assumption | rfl) ?_
                rw [hbk]
                refine z_aload_n 99 dX9_seats_98 rfl rfl ?_
                refine gX9_60 102 rfl dX9_seats_99 rfl ?_
                refine z_cVJ0 105 (tX5_whole hn3 n8) kX5_whole dX9_seats_102 rfl lX9_243 (by first | assumption | rfl) (Nat.le_of_ble_eq_true rfl) ?_
                rintro _ _ ⟨e1, e2⟩
                replace e1 := e1.symm
                replace e2 := e2.symm
                subst e1
                subst e2
                refine z_cVI2 108 (tX0_tell (by omega) (by omega) (wh_pos _)) kX0_tell dX9_seats_105 rfl lX9_246 (by first | assumption | rfl) (Nat.le_of_ble_eq_true rfl) ?_
                rintro _ _ ⟨e4, e5⟩
                subst e4
                subst e5
                refine z_pop 109 dX9_seats_108 rfl rfl ?_
                refine z_aload_n 110 dX9_seats_109 rfl rfl ?_
                refine gX9_11 113 rfl dX9_seats_110 rfl ?_
                refine z_iload_n 114 dX9_seats_113 rfl rfl ?_
                refine z_aald1 115 dX9_seats_114 rfl (by omega) ?_
                refine z_aload_n 116 dX9_seats_115 rfl rfl ?_
                refine gX9_60 119 rfl dX9_seats_116 rfl ?_
                refine gX9_281 122 rfl dX9_seats_119 rfl (by first | assumption | rfl) ?_
                refine z_aload_n 123 dX9_seats_122 rfl rfl ?_
                refine gX9_60 126 rfl dX9_seats_123 rfl ?_
                refine gX9_269 129 rfl dX9_seats_126 rfl (by first | assumption | rfl) ?_
                rw [gi_sl, gi_sl, hn3]
                refine z_cVV2 132 (tX7_take (b := 13 + 3) (cb := 8) hkc hkc1 rfl (by omega) n8) kX7_take dX9_seats_129 rfl lX9_209 (by first | assumption | rfl) (Nat.le_of_ble_eq_true rfl) ?_
                rintro τ4 ⟨hF4, hS4⟩
                refine z_iload 134 dX9_seats_132 rfl rfl ?_
                refine z_ri dX9_seats_134 rfl ?_
                have hX4 : RX (setA S (aTell (sA S) (fU A.1 (24 ^ (q.1 / 2))) (fL A.1 (24 ^ (q.1 / 2))))) (sl (sl τ3 6 3 (fU A.1 (24 ^ (q.1 / 2)))) 6 4 (fL A.1 (24 ^ (q.1 / 2)))) := (qxt hW (p := sTell S A.1 (24 ^ (q.1 / 2)) (nI 1)) (σ0 := τ3) rfl hX3 Fr.rf).2.1
                have hX5 := hX4.R (WF_A hW _) hF4 hc (hS4.cong (fun x hx => hx3.2 A rfl x hx))
                refine qx0 (S := setR (setA S (aTell (sA S) (fU A.1 (24 ^ (q.1 / 2))) (fL A.1 (24 ^ (q.1 / 2))))) c (some (q.1, fun x => nI (tbL S (gOf (sR S r)) q.1 A.2.2 x)))) (e0.trans rfl) hX5 ?_
                have k1 : Fr xAll σ τ3 := (hF1.tr hF2 (R := xAll) (by intros; omega) (by intros; omega)).tr hF3 (fun _ _ h => h) (by intros; omega)
                exact ((k1.sl _ (by decide)).sl _ (by decide)).tr hF4 (fun _ _ h => h) (by intros; omega)
              · (try rw [nI_leI (by omega) (by omega)] at h57)
                omega
            · (try rw [nI_eq0 (by omega)] at h33)
              exact absurd rfl h33
          · exact absurd b3 h18
  · rw [if_pos hD] at e0
    refine z_iload_n 1 dX9_seats_0 rfl rfl ?_
    refine z_cSI1 4 (tX9_isRow) kX9_isRow dX9_seats_1 rfl lX9_83 (Nat.le_of_ble_eq_true rfl) ?_
    rintro _ _ ⟨e1, e2⟩
    replace e1 := e1.symm
    replace e2 := e2.symm
    subst e1
    subst e2
    refine z_ifb_eq 21 7 dX9_seats_4 (by decide) rfl (fun h4 => ?_) (fun h4 => ?_)
    · exact absurd b1 h4
    · refine z_iload_n 8 dX9_seats_7 rfl rfl ?_
      refine z_cSI1 11 (tX9_isRow) kX9_isRow dX9_seats_8 rfl lX9_83 (Nat.le_of_ble_eq_true rfl) ?_
      rintro _ _ ⟨e1, e2⟩
      replace e1 := e1.symm
      replace e2 := e2.symm
      subst e1
      subst e2
      refine z_ifb_eq 21 14 dX9_seats_11 (by decide) rfl (fun h11 => ?_) (fun h11 => ?_)
      · exact absurd b2 h11
      · refine z_iload_n 15 dX9_seats_14 rfl rfl ?_
        refine z_cSI1 18 (tX9_isRow) kX9_isRow dX9_seats_15 rfl lX9_83 (Nat.le_of_ble_eq_true rfl) ?_
        rintro _ _ ⟨e1, e2⟩
        replace e1 := e1.symm
        replace e2 := e2.symm
        subst e1
        subst e2
        refine z_ifb_ne 23 21 dX9_seats_18 (by decide) rfl (fun h18 => ?_) (fun h18 => ?_)
        · refine z_aload_n 24 dX9_seats_23 rfl rfl ?_
          refine z_iload_n 25 dX9_seats_24 rfl rfl ?_
          refine z_iload_n 26 dX9_seats_25 rfl rfl ?_
          refine z_cVI2 29 (tX9_padsFault hW hX hr hb) kX9_padsFault dX9_seats_26 rfl lX9_264 (by first | assumption | rfl) (Nat.le_of_ble_eq_true rfl) ?_
          rintro _ _ ⟨e1, e2⟩
          replace e1 := e1.symm
          replace e2 := e2.symm
          subst e1
          subst e2
          refine zs_istore_4_6 31 rfl dX9_seats_29 rfl rfl ?_
          refine z_iload 33 dX9_seats_31 rfl rfl ?_
          refine z_if_eq 46 36 dX9_seats_33 (by decide) rfl (fun h33 => ?_) (fun h33 => ?_)
          · (try rw [nI_eq0 (by omega)] at h33)
            exact absurd h33 hD
          · (try rw [nI_eq0 (by omega)] at h33)
            refine z_aload_n 37 dX9_seats_36 rfl rfl ?_
            refine gX9_39 40 rfl dX9_seats_37 rfl ?_
            refine z_iload 42 dX9_seats_40 rfl rfl ?_
            refine z_cVI1 45 (tX0_found (by omega) hpl) kX0_found dX9_seats_42 rfl lX9_87 (by first | assumption | rfl) (Nat.le_of_ble_eq_true rfl) ?_
            rintro _ _ ⟨e1, e2⟩
            replace e1 := e1.symm
            replace e2 := e2.symm
            subst e1
            subst e2
            refine z_ri dX9_seats_45 rfl ?_
            exact qxf hW e0 hpl hX Fr.rf
        · exact absurd b3 h18
