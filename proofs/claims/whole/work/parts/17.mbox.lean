/-! a text read by the reference -/
abbrev mG (a j : Nat) : Prop := a = 102 ∧ j = 12 ∨ a = 109 ∧ j = 2 ∨ a = 110 ∧ 160 ≤ j
set_option maxRecDepth 20000 in
theorem tX10_readsWord {E : zE} {d : Nat} {σ : zM} {t i w : Nat} {q : Nat × (Nat → Int32)} {R : Option Nat} (ht : t < 4) (hS : mSh σ 107 108 t 120 (some q)) (hi : gi σ 102 12 = nI i) (hin : i ≤ q.1) (hw : w < 8) (h2 : gi σ 109 2 = nI w) (hR : R = bfR q.2 (q.1 - i) i (w + 1) 0 0) (hd : dc q.2 i = 10 * w) (hc : ∀ y, y < 10 * w → gi σ 110 (160 + y) = nI (dg q.2 i y)) :
    Ret E mX10_readsWord (d + 1) [zr E 102, .int (nI t)] σ (qI fun x τ => ∃ (b : Bool) (i' : Nat), x = bI (decide (b = true)) ∧ Fr mG σ τ ∧ i ≤ i' ∧ i' ≤ q.1 ∧ gi τ 102 12 = nI i' ∧ (b = false → R = some i') ∧ (b = true → R = bfR q.2 (q.1 - i') i' (w + 1) 10 0 ∧ gi τ 109 2 = nI (w + 1) ∧ dc q.2 i' = 10 * (w + 1) ∧ wc q.2 i' = wc q.2 i ∧ ∀ y, y < 10 * (w + 1) → gi τ 110 (160 + y) = nI (dg q.2 i' y))) := by
  have hq := hS.1
  refine Ret.of [some (zr E 102), some (.int (nI t)), none, none] (by decide +kernel) (Nat.le_of_ble_eq_true rfl) rfl ?_
  have loop : ∀ p, p ≤ 10 → ∀ s τ, Fr mG σ τ → i + p ≤ q.1 → gi τ 102 12 = nI (i + p) → gi τ 109 2 = nI w → s ≤ 9 * p → dc q.2 (i + p) = 10 * w + p → wc q.2 (i + p) = wc q.2 i → (∀ y, y < 10 * w + p → gi τ 110 (160 + y) = nI (dg q.2 (i + p) y)) → (R = if p = 10 ∧ s = 0 then some (i + p) else bfR q.2 (q.1 - (i + p)) (i + p) (w + 1) p s) → At E mX10_readsWord (d + 1) (qI fun x τ => ∃ (b : Bool) (i' : Nat), x = bI (decide (b = true)) ∧ Fr mG σ τ ∧ i ≤ i' ∧ i' ≤ q.1 ∧ gi τ 102 12 = nI i' ∧ (b = false → R = some i') ∧ (b = true → R = bfR q.2 (q.1 - i') i' (w + 1) 10 0 ∧ gi τ 109 2 = nI (w + 1) ∧ dc q.2 i' = 10 * (w + 1) ∧ wc q.2 i' = wc q.2 i ∧ ∀ y, y < 10 * (w + 1) → gi τ 110 (160 + y) = nI (dg q.2 i' y))) 4 [some (zr E 102), some (.int (nI t)), some (.int (nI s)), some (.int (nI p))] [] τ := by
    refine z_up (fun p hp ih s τ hF hip hr hb hs hdc hwc hv hR => ?_)
    have hST : mSh τ 107 108 t 120 (some q) := hS.fr hF (by omega) (by intros; omega)
    by_cases hp10 : p = 10
    · subst hp10
      refine z_iload_n 5 dX10_readsWord_4 rfl rfl ?_
      refine z_bipush 7 (v := nI 10) dX10_readsWord_5 rfl rfl ?_
      refine z_icmp_ge 82 10 dX10_readsWord_7 (by decide) rfl (fun h7 => ?_) (fun h7 => ?_)
      · (try rw [nI_leI (by omega) (by omega)] at h7)
        refine z_aload_n 83 dX10_readsWord_82 rfl rfl ?_
        refine gX10_32 86 rfl dX10_readsWord_83 rfl ?_
        refine z_iconst 87 (v := nI 2) dX10_readsWord_86 rfl rfl ?_
        refine z_dup2 88 dX10_readsWord_87 rfl rfl rfl ?_
        refine z_ialdn 89 dX10_readsWord_88 rfl (by first | assumption | rfl) (by omega) ?_
        refine z_iconst 90 (v := nI 1) dX10_readsWord_89 rfl rfl ?_
        rw [hb]
        refine z_iadd 91 dX10_readsWord_90 rfl ?_
        rw [nI_add]
        refine z_iastn 92 dX10_readsWord_91 rfl (by first | assumption | rfl) (by omega) ?_
        refine z_iload_n 93 dX10_readsWord_92 rfl rfl ?_
        refine z_if_le 100 96 dX10_readsWord_93 (by decide) rfl (fun h93 => ?_) (fun h93 => ?_)
        · (try rw [nI_le0 (by omega)] at h93)
          refine z_iconst 101 (v := nI 0) dX10_readsWord_100 rfl rfl ?_
          refine z_rz dX10_readsWord_101 rfl (by first | exact Or.inl rfl | exact Or.inr rfl | exact bI_01 _ | assumption) ?_
          first
            | (have hs0 : s = 0 := by omega
               rw [if_pos ⟨rfl, hs0⟩] at hR
               exact ⟨false, i + 10, bI_f (fun z => by cases z), hF.si _ (by omega), by omega, hip, (gi_s2 _ _ (by omega)).trans hr, fun _ => hR, fun z => by cases z⟩)
            | (rw [if_neg (by omega), bfR_s _ _ _ _ _ s 0 (by omega)] at hR
               exact ⟨true, i + 10, bI_t rfl, hF.si _ (by omega), by omega, hip, (gi_s2 _ _ (by omega)).trans hr, (fun z => by cases z), fun _ => ⟨hR, gi_s1 _ _ _ _, by omega, hwc, fun y hy => (gi_s2 _ _ (by omega)).trans (hv y (by omega))⟩⟩)
        · (try rw [nI_le0 (by omega)] at h93)
          refine z_iconst 97 (v := nI 1) dX10_readsWord_96 rfl rfl ?_
          refine z_goto 101 dX10_readsWord_97 rfl ?_
          refine z_rz dX10_readsWord_101 rfl (by first | exact Or.inl rfl | exact Or.inr rfl | exact bI_01 _ | assumption) ?_
          first
            | (have hs0 : s = 0 := by omega
               rw [if_pos ⟨rfl, hs0⟩] at hR
               exact ⟨false, i + 10, bI_f (fun z => by cases z), hF.si _ (by omega), by omega, hip, (gi_s2 _ _ (by omega)).trans hr, fun _ => hR, fun z => by cases z⟩)
            | (rw [if_neg (by omega), bfR_s _ _ _ _ _ s 0 (by omega)] at hR
               exact ⟨true, i + 10, bI_t rfl, hF.si _ (by omega), by omega, hip, (gi_s2 _ _ (by omega)).trans hr, (fun z => by cases z), fun _ => ⟨hR, gi_s1 _ _ _ _, by omega, hwc, fun y hy => (gi_s2 _ _ (by omega)).trans (hv y (by omega))⟩⟩)
      · (try rw [nI_leI (by omega) (by omega)] at h7)
        omega
    · rw [if_neg (fun z => hp10 z.1)] at hR
      by_cases hD : i + p < q.1 ∧ isD (q.2 (i + p))
      · obtain ⟨v, hv9, hv1, hv2, hv3⟩ := isD_of hD.2
        have hne : ¬ (q.2 (i + p) = nI 119 ∨ q.2 (i + p) = nI 32) := by
          rw [hv1, nI_eq (by omega) (by decide), nI_eq (by omega) (by decide)]
          omega
        have edg : dg q.2 (i + p + 1) = zu (dg q.2 (i + p)) (10 * w + p) v := by rw [dg, if_neg hne, hv3, hdc]
        have edc : dc q.2 (i + p + 1) = 10 * w + (p + 1) := by rw [dc, if_neg hne, hdc]; omega
        have ewc : wc q.2 (i + p + 1) = wc q.2 i := by rw [wc, if_neg (fun z => hne (Or.inl z)), Nat.add_zero, hwc]
        rw [show q.1 - (i + p) = (q.1 - (i + p + 1)) + 1 by omega, bfR, if_pos (by omega), if_pos hD.2, hv3] at hR
        refine z_iload_n 5 dX10_readsWord_4 rfl rfl ?_
        refine z_bipush 7 (v := nI 10) dX10_readsWord_5 rfl rfl ?_
        refine z_icmp_ge 82 10 dX10_readsWord_7 (by decide) rfl (fun h7 => ?_) (fun h7 => ?_)
        · (try rw [nI_leI (by omega) (by omega)] at h7)
          omega
        · (try rw [nI_leI (by omega) (by omega)] at h7)
          refine z_aload_n 11 dX10_readsWord_10 rfl rfl ?_
          refine z_iload_n 12 dX10_readsWord_11 rfl rfl ?_
          refine z_cVI1 15 (tX10_here ht hST hr hip) kX10_here dX10_readsWord_12 rfl lX10_129 (by first | assumption | rfl) (Nat.le_of_ble_eq_true rfl) ?_
          rintro _ _ ⟨e1, e2⟩
          replace e1 := e1.symm
          replace e2 := e2.symm
          subst e1
          subst e2
          refine z_bipush 17 (v := nI 48) dX10_readsWord_15 rfl rfl ?_
          refine z_bipush 19 (v := nI 57) dX10_readsWord_17 rfl rfl ?_
          rw [if_pos hD.1]
          refine z_cSI3 22 (tX10_in) kX10_in dX10_readsWord_19 rfl lX10_91 (Nat.le_of_ble_eq_true rfl) ?_
          rintro _ _ ⟨e1, e2⟩
          replace e1 := e1.symm
          replace e2 := e2.symm
          subst e1
          subst e2
          refine z_ifb_ne 27 25 dX10_readsWord_22 (by decide) rfl (fun h22 => ?_) (fun h22 => ?_)
          · refine z_aload_n 28 dX10_readsWord_27 rfl rfl ?_
            refine gX10_35 31 rfl dX10_readsWord_28 rfl ?_
            refine z_sipush 34 (v := nI 160) dX10_readsWord_31 rfl rfl ?_
            refine z_bipush 36 (v := nI 10) dX10_readsWord_34 rfl rfl ?_
            refine z_aload_n 37 dX10_readsWord_36 rfl rfl ?_
            refine gX10_32 40 rfl dX10_readsWord_37 rfl ?_
            refine z_iconst 41 (v := nI 2) dX10_readsWord_40 rfl rfl ?_
            refine z_ialdn 42 dX10_readsWord_41 rfl (by first | assumption | rfl) (by omega) ?_
            refine z_imul 43 dX10_readsWord_42 rfl ?_
            refine z_iadd 44 dX10_readsWord_43 rfl ?_
            refine z_iload_n 45 dX10_readsWord_44 rfl rfl ?_
            refine z_iadd 46 dX10_readsWord_45 rfl ?_
            rw [hb, nI_mul, nI_add, nI_add]
            refine z_aload_n 47 dX10_readsWord_46 rfl rfl ?_
            refine z_iload_n 48 dX10_readsWord_47 rfl rfl ?_
            refine z_cVI1 51 (tX10_here ht hST hr hip) kX10_here dX10_readsWord_48 rfl lX10_129 (by first | assumption | rfl) (Nat.le_of_ble_eq_true rfl) ?_
            rintro _ _ ⟨e1, e2⟩
            replace e1 := e1.symm
            replace e2 := e2.symm
            subst e1
            subst e2
            refine z_bipush 53 (v := nI 48) dX10_readsWord_51 rfl rfl ?_
            rw [if_pos hD.1]
            refine z_isub 54 dX10_readsWord_53 rfl ?_
            rw [hv2]
            refine z_iastn 55 dX10_readsWord_54 rfl (by first | assumption | rfl) (by omega) ?_
            refine z_iload_n 56 dX10_readsWord_55 rfl rfl ?_
            refine z_aload_n 57 dX10_readsWord_56 rfl rfl ?_
            refine z_iload_n 58 dX10_readsWord_57 rfl rfl ?_
            refine z_cVI1 61 (tX10_here ht (hST.fr (P := mG) (Fr.rf.si _ (by omega)) (by omega) (by intros; omega)) ((gi_s2 _ _ (by omega)).trans hr) hip) kX10_here dX10_readsWord_58 rfl lX10_129 (by first | assumption | rfl) (Nat.le_of_ble_eq_true rfl) ?_
            rintro _ _ ⟨e1, e2⟩
            replace e1 := e1.symm
            replace e2 := e2.symm
            subst e1
            subst e2
            refine z_bipush 63 (v := nI 48) dX10_readsWord_61 rfl rfl ?_
            rw [if_pos hD.1]
            refine z_isub 64 dX10_readsWord_63 rfl ?_
            rw [hv2]
            refine z_iadd 65 dX10_readsWord_64 rfl ?_
            rw [nI_add]
            refine zs_istore_n_2_4 66 rfl dX10_readsWord_65 rfl rfl ?_
            refine z_aload_n 67 dX10_readsWord_66 rfl rfl ?_
            refine z_dup 68 dX10_readsWord_67 rfl rfl ?_
            refine gX10_126 71 rfl dX10_readsWord_68 rfl ?_
            refine z_iconst 72 (v := nI 1) dX10_readsWord_71 rfl rfl ?_
            rw [gi_s2 _ _ (by omega), hr]
            refine z_iadd 73 dX10_readsWord_72 rfl ?_
            rw [nI_add]
            refine pX10_126 76 rfl dX10_readsWord_73 rfl ?_
            refine zs_iinc_3_4_1 79 rfl dX10_readsWord_76 rfl rfl ?_
            rw [nI_add]
            refine z_goto 4 dX10_readsWord_79 rfl ?_
            refine ih (p + 1) (by omega) (by omega) (s + v) _ ((hF.si _ (by omega)).si _ (by omega)) (by omega) (gi_s1 _ _ _ _) ((gi_s2 _ _ (by omega)).trans ((gi_s2 _ _ (by omega)).trans hb)) (by omega) edc ewc (fun y hy => ?_) ?_
            · show _ = nI (dg q.2 (i + p + 1) y)
              rw [gi_s2 _ _ (by omega), gi_si, edg]
              unfold zu
              by_cases hyd : y = 10 * w + p
              · rw [if_pos ⟨rfl, by omega⟩, if_pos hyd]
              · rw [if_neg (by omega), if_neg hyd]; exact hv y (by omega)
            · exact hR
          · exact absurd hD.2 h22
      · have hR' : R = some (i + p) := by
          by_cases hiq : i + p < q.1
          · rw [show q.1 - (i + p) = (q.1 - (i + p + 1)) + 1 by omega, bfR, if_pos (by omega), if_neg (fun z => hD ⟨hiq, z⟩)] at hR
            exact hR
          · rw [show q.1 - (i + p) = 0 by omega] at hR
            have hR : R = if w + 1 = 0 ∨ p < 10 then some (i + p) else none := hR
            rwa [if_pos (by omega)] at hR
        refine z_iload_n 5 dX10_readsWord_4 rfl rfl ?_
        refine z_bipush 7 (v := nI 10) dX10_readsWord_5 rfl rfl ?_
        refine z_icmp_ge 82 10 dX10_readsWord_7 (by decide) rfl (fun h7 => ?_) (fun h7 => ?_)
        · (try rw [nI_leI (by omega) (by omega)] at h7)
          omega
        · (try rw [nI_leI (by omega) (by omega)] at h7)
          refine z_aload_n 11 dX10_readsWord_10 rfl rfl ?_
          refine z_iload_n 12 dX10_readsWord_11 rfl rfl ?_
          refine z_cVI1 15 (tX10_here ht hST hr hip) kX10_here dX10_readsWord_12 rfl lX10_129 (by first | assumption | rfl) (Nat.le_of_ble_eq_true rfl) ?_
          rintro _ _ ⟨e1, e2⟩
          replace e1 := e1.symm
          replace e2 := e2.symm
          subst e1
          subst e2
          refine z_bipush 17 (v := nI 48) dX10_readsWord_15 rfl rfl ?_
          refine z_bipush 19 (v := nI 57) dX10_readsWord_17 rfl rfl ?_
          refine z_cSI3 22 (tX10_in) kX10_in dX10_readsWord_19 rfl lX10_91 (Nat.le_of_ble_eq_true rfl) ?_
          rintro _ _ ⟨e1, e2⟩
          replace e1 := e1.symm
          replace e2 := e2.symm
          subst e1
          subst e2
          refine z_ifb_ne 27 25 dX10_readsWord_22 (by decide) rfl (fun h22 => ?_) (fun h22 => ?_)
          · exfalso
            by_cases hiq : i + p < q.1
            · rw [if_pos hiq] at h22; exact hD ⟨hiq, h22⟩
            · rw [if_neg hiq] at h22; exact absurd h22.1 (by decide)
          · refine z_iconst 26 (v := nI 0) dX10_readsWord_25 rfl rfl ?_
            refine z_rz dX10_readsWord_26 rfl (by first | exact Or.inl rfl | exact Or.inr rfl | exact bI_01 _ | assumption) ?_
            exact ⟨false, i + p, bI_f (fun z => by cases z), hF, by omega, hip, hr, fun _ => hR', fun z => by cases z⟩
  refine z_iconst 1 (v := nI 0) dX10_readsWord_0 rfl rfl ?_
  refine zs_istore_n_2_4 2 rfl dX10_readsWord_1 rfl rfl ?_
  refine z_iconst 3 (v := nI 0) dX10_readsWord_2 rfl rfl ?_
  refine zs_istore_n_3_4 4 rfl dX10_readsWord_3 rfl rfl ?_
  exact loop 0 (by omega) 0 σ Fr.rf hin hi h2 (by omega) hd rfl hc (by rw [if_neg (by omega)]; exact hR)
set_option maxRecDepth 20000 in
theorem tX10_goesOn {E : zE} {d : Nat} {σ : zM} {t : Nat} {q : Nat × (Nat → Int32)} (ht : t < 4) (hS : mSh σ 107 108 t 120 (some q)) : Ret E mX10_goesOn (d + 2) [zr E 102, .int (nI t)] σ (qI fun x τ => x = fI (sBf (some q)) ∧ Fr mG σ τ ∧ (sBf (some q) = none → gi τ 109 2 = nI (wc q.2 q.1) ∧ ∀ y, y < dc q.2 q.1 → gi τ 110 (160 + y) = nI (dg q.2 q.1 y))) := by
  have hq := hS.1
  obtain ⟨R, hR⟩ : ∃ R, R = sBf (some q) := ⟨_, rfl⟩
  rw [← hR]
  refine Ret.of [some (zr E 102), some (.int (nI t))] (by decide +kernel) (Nat.le_of_ble_eq_true rfl) rfl ?_
  have loop : ∀ i, i ≤ q.1 → ∀ w τ, Fr mG σ τ → gi τ 102 12 = nI i → w ≤ 8 → gi τ 109 2 = nI w → R = bfR q.2 (q.1 - i) i w 10 0 → dc q.2 i = 10 * w → wc q.2 i = w → (∀ y, y < 10 * w → gi τ 110 (160 + y) = nI (dg q.2 i y)) → At E mX10_goesOn (d + 2) (qI fun x τ => x = fI R ∧ Fr mG σ τ ∧ (R = none → gi τ 109 2 = nI (wc q.2 q.1) ∧ ∀ y, y < dc q.2 q.1 → gi τ 110 (160 + y) = nI (dg q.2 q.1 y))) 12 [some (zr E 102), some (.int (nI t))] [] τ := by
    refine z_up (fun i hi ih w τ hF hr hw hb hR hdc hwc hv => ?_)
    have hST : mSh τ 107 108 t 120 (some q) := hS.fr hF (by omega) (by intros; omega)
    have hsz : gi τ 107 t = nI q.1 := hST.2.1
    by_cases hiq : q.1 ≤ i
    · have hiq : i = q.1 := by omega
      subst hiq
      rw [show q.1 - q.1 = 0 by omega] at hR
      have hR : R = if w = 0 ∨ 10 < 10 then some q.1 else none := hR
      refine z_aload_n 13 dX10_goesOn_12 rfl rfl ?_
      refine gX10_126 16 rfl dX10_goesOn_13 rfl ?_
      refine z_aload_n 17 dX10_goesOn_16 rfl rfl ?_
      refine gX10_26 20 rfl dX10_goesOn_17 rfl ?_
      refine z_iload_n 21 dX10_goesOn_20 rfl rfl ?_
      refine z_ialdn 22 dX10_goesOn_21 rfl (by first | assumption | rfl) (by omega) ?_
      rw [hr, hsz]
      refine z_icmp_ge 97 25 dX10_goesOn_22 (by decide) rfl (fun h22 => ?_) (fun h22 => ?_)
      · (try rw [nI_leI (by omega) (by omega)] at h22)
        refine z_aload_n 98 dX10_goesOn_97 rfl rfl ?_
        refine gX10_32 101 rfl dX10_goesOn_98 rfl ?_
        refine z_iconst 102 (v := nI 2) dX10_goesOn_101 rfl rfl ?_
        refine z_ialdn 103 dX10_goesOn_102 rfl (by first | assumption | rfl) (by omega) ?_
        rw [hb]
        refine z_if_ne 115 106 dX10_goesOn_103 (by decide) rfl (fun h103 => ?_) (fun h103 => ?_)
        · (try rw [nI_eq0 (by omega)] at h103)
          refine z_bipush 117 (v := (-9)) dX10_goesOn_115 rfl rfl ?_
          refine z_ri dX10_goesOn_117 rfl ?_
          first
            | (rw [if_pos (Or.inl h103)] at hR; rw [hR]; exact ⟨rfl, hF, fun z => by cases z⟩)
            | (rw [if_neg (by omega)] at hR; rw [hR]; exact ⟨rfl, hF, fun _ => ⟨by rw [hb, hwc], fun y hy => hv y (by omega)⟩⟩)
        · (try rw [nI_eq0 (by omega)] at h103)
          refine z_aload_n 107 dX10_goesOn_106 rfl rfl ?_
          refine gX10_26 110 rfl dX10_goesOn_107 rfl ?_
          refine z_iload_n 111 dX10_goesOn_110 rfl rfl ?_
          refine z_ialdn 112 dX10_goesOn_111 rfl (by first | assumption | rfl) (by omega) ?_
          rw [hsz]
          refine z_goto 117 dX10_goesOn_112 rfl ?_
          refine z_ri dX10_goesOn_117 rfl ?_
          first
            | (rw [if_pos (Or.inl h103)] at hR; rw [hR]; exact ⟨rfl, hF, fun z => by cases z⟩)
            | (rw [if_neg (by omega)] at hR; rw [hR]; exact ⟨rfl, hF, fun _ => ⟨by rw [hb, hwc], fun y hy => hv y (by omega)⟩⟩)
      · (try rw [nI_leI (by omega) (by omega)] at h22)
        omega
    · have hlt : i < q.1 := by omega
      rw [show q.1 - i = (q.1 - (i + 1)) + 1 by omega, bfR, if_neg (by omega)] at hR
      refine z_aload_n 13 dX10_goesOn_12 rfl rfl ?_
      refine gX10_126 16 rfl dX10_goesOn_13 rfl ?_
      refine z_aload_n 17 dX10_goesOn_16 rfl rfl ?_
      refine gX10_26 20 rfl dX10_goesOn_17 rfl ?_
      refine z_iload_n 21 dX10_goesOn_20 rfl rfl ?_
      refine z_ialdn 22 dX10_goesOn_21 rfl (by first | assumption | rfl) (by omega) ?_
      rw [hr, hsz]
      refine z_icmp_ge 97 25 dX10_goesOn_22 (by decide) rfl (fun h22 => ?_) (fun h22 => ?_)
      · (try rw [nI_leI (by omega) (by omega)] at h22)
        omega
      · (try rw [nI_leI (by omega) (by omega)] at h22)
        refine z_aload_n 26 dX10_goesOn_25 rfl rfl ?_
        refine z_iload_n 27 dX10_goesOn_26 rfl rfl ?_
        refine z_cVI1 30 (tX10_here ht hST hr hi) kX10_here dX10_goesOn_27 rfl lX10_129 (by first | assumption | rfl) (Nat.le_of_ble_eq_true rfl) ?_
        rintro _ _ ⟨e1, e2⟩
        replace e1 := e1.symm
        replace e2 := e2.symm
        subst e1
        subst e2
        rw [if_pos hlt]
        refine z_bipush 32 (v := nI 32) dX10_goesOn_30 rfl rfl ?_
        refine z_icmp_ne 48 35 dX10_goesOn_32 (by decide) rfl (fun h32 => ?_) (fun h32 => ?_)
        · rw [if_neg h32] at hR
          refine z_aload_n 49 dX10_goesOn_48 rfl rfl ?_
          refine z_iload_n 50 dX10_goesOn_49 rfl rfl ?_
          refine z_cVI1 53 (tX10_here ht hST hr hi) kX10_here dX10_goesOn_50 rfl lX10_129 (by first | assumption | rfl) (Nat.le_of_ble_eq_true rfl) ?_
          rintro _ _ ⟨e1, e2⟩
          replace e1 := e1.symm
          replace e2 := e2.symm
          subst e1
          subst e2
          rw [if_pos hlt]
          refine z_bipush 55 (v := nI 119) dX10_goesOn_53 rfl rfl ?_
          refine z_icmp_ne 69 58 dX10_goesOn_55 (by decide) rfl (fun h55 => ?_) (fun h55 => ?_)
          · rw [if_neg (fun z => h55 z.1)] at hR
            refine z_aload_n 70 dX10_goesOn_69 rfl rfl ?_
            refine gX10_126 73 rfl dX10_goesOn_70 rfl ?_
            rw [hr]
            refine z_ri dX10_goesOn_73 rfl ?_
            rw [hR]
            exact ⟨rfl, hF, fun z => by cases z⟩
          · refine z_aload_n 59 dX10_goesOn_58 rfl rfl ?_
            refine gX10_32 62 rfl dX10_goesOn_59 rfl ?_
            refine z_iconst 63 (v := nI 2) dX10_goesOn_62 rfl rfl ?_
            refine z_ialdn 64 dX10_goesOn_63 rfl (by first | assumption | rfl) (by omega) ?_
            refine z_bipush 66 (v := nI 8) dX10_goesOn_64 rfl rfl ?_
            rw [hb]
            refine z_icmp_ne 74 69 dX10_goesOn_66 (by decide) rfl (fun h66 => ?_) (fun h66 => ?_)
            · (try rw [nI_eq (by omega) (by omega)] at h66)
              rw [if_pos ⟨h55, by omega⟩] at hR
              refine z_aload_n 75 dX10_goesOn_74 rfl rfl ?_
              refine z_dup 76 dX10_goesOn_75 rfl rfl ?_
              refine gX10_126 79 rfl dX10_goesOn_76 rfl ?_
              refine z_iconst 80 (v := nI 1) dX10_goesOn_79 rfl rfl ?_
              rw [hr]
              refine z_iadd 81 dX10_goesOn_80 rfl ?_
              rw [nI_add]
              refine pX10_126 84 rfl dX10_goesOn_81 rfl ?_
              refine z_aload_n 85 dX10_goesOn_84 rfl rfl ?_
              refine z_iload_n 86 dX10_goesOn_85 rfl rfl ?_
              refine z_cVI1 89 (tX10_readsWord (i := i + 1) (w := w) (q := q) (R := R) ht (hST.fr (P := mG) (Fr.rf.si _ (by omega)) (by omega) (by intros; omega)) (gi_s1 _ _ _ _) hlt (by omega) ((gi_s2 _ _ (by omega)).trans hb) hR (by rw [dc, if_pos (Or.inl h55), Nat.add_zero, hdc]) (fun y hy => (gi_s2 _ _ (by omega)).trans ((hv y hy).trans (by rw [dg, if_pos (Or.inl h55)])))) kX10_readsWord dX10_goesOn_86 rfl lX10_132 (by first | assumption | rfl) (Nat.le_of_ble_eq_true rfl) ?_
              rintro _ τ1 ⟨bb, i', e1, hF1, hi1, hi2, hr1, hb1, hb2⟩
              subst e1
              have hFF : Fr mG σ τ1 := (hF.si _ (by omega)).tr hF1 (fun _ _ h => h) (fun _ _ h => h)
              refine z_ifb_ne 12 92 dX10_goesOn_89 (by decide) rfl (fun h89 => ?_) (fun h89 => ?_)
              · obtain ⟨r1, r2, r3, r4, r5⟩ := hb2 h89
                first
                  | exact ih i' (by omega) hi2 (w + 1) τ1 hFF hr1 (by omega) r2 r1 r3 (by rw [r4, wc, if_pos h55, hwc]) r5
                  | (refine ih (i + 1) (by omega) (by omega) w _ (hF.si _ (by omega)) (gi_s1 _ _ _ _) hw ((gi_s2 _ _ (by omega)).trans hb) hR ?_ ?_ (fun y hy => ?_)
                     · rw [dc, if_pos (Or.inr h32), Nat.add_zero, hdc]
                     · rw [wc, if_neg (by rw [h32, nI_eq (by decide) (by decide)]; decide), Nat.add_zero, hwc]
                     · rw [gi_s2 _ _ (by omega), dg, if_pos (Or.inr h32)]; exact hv y hy)
              · have r1 := hb1 (by cases bb with | false => rfl | true => exact absurd rfl h89)
                refine z_aload_n 93 dX10_goesOn_92 rfl rfl ?_
                refine gX10_126 96 rfl dX10_goesOn_93 rfl ?_
                rw [hr1]
                refine z_ri dX10_goesOn_96 rfl ?_
                rw [r1]
                exact ⟨rfl, hFF, fun z => by cases z⟩
            · (try rw [nI_eq (by omega) (by omega)] at h66)
              rw [if_neg (fun z => by omega)] at hR
              refine z_aload_n 70 dX10_goesOn_69 rfl rfl ?_
              refine gX10_126 73 rfl dX10_goesOn_70 rfl ?_
              rw [hr]
              refine z_ri dX10_goesOn_73 rfl ?_
              rw [hR]
              exact ⟨rfl, hF, fun z => by cases z⟩
        · rw [if_neg (fun z => by rw [h32, nI_eq (by decide) (by decide)] at z; omega), if_pos h32] at hR
          refine z_aload_n 36 dX10_goesOn_35 rfl rfl ?_
          refine z_dup 37 dX10_goesOn_36 rfl rfl ?_
          refine gX10_126 40 rfl dX10_goesOn_37 rfl ?_
          refine z_iconst 41 (v := nI 1) dX10_goesOn_40 rfl rfl ?_
          rw [hr]
          refine z_iadd 42 dX10_goesOn_41 rfl ?_
          rw [nI_add]
          refine pX10_126 45 rfl dX10_goesOn_42 rfl ?_
          refine z_goto 12 dX10_goesOn_45 rfl ?_
          first
            | exact ih i' (by omega) hi2 (w + 1) τ1 hFF hr1 (by omega) r2 r1 r3 (by rw [r4, wc, if_pos h55, hwc]) r5
            | (refine ih (i + 1) (by omega) (by omega) w _ (hF.si _ (by omega)) (gi_s1 _ _ _ _) hw ((gi_s2 _ _ (by omega)).trans hb) hR ?_ ?_ (fun y hy => ?_)
               · rw [dc, if_pos (Or.inr h32), Nat.add_zero, hdc]
               · rw [wc, if_neg (by rw [h32, nI_eq (by decide) (by decide)]; decide), Nat.add_zero, hwc]
               · rw [gi_s2 _ _ (by omega), dg, if_pos (Or.inr h32)]; exact hv y hy)
  refine z_aload_n 1 dX10_goesOn_0 rfl rfl ?_
  refine z_iconst 2 (v := nI 0) dX10_goesOn_1 rfl rfl ?_
  refine pX10_126 5 rfl dX10_goesOn_2 rfl ?_
  refine z_aload_n 6 dX10_goesOn_5 rfl rfl ?_
  refine gX10_32 9 rfl dX10_goesOn_6 rfl ?_
  refine z_iconst 10 (v := nI 2) dX10_goesOn_9 rfl rfl ?_
  refine z_iconst 11 (v := nI 0) dX10_goesOn_10 rfl rfl ?_
  refine z_iastn 12 dX10_goesOn_11 rfl (by first | assumption | rfl) (by omega) ?_
  exact loop 0 (Nat.zero_le _) 0 _ ((Fr.si (P := mG) Fr.rf _ (by omega)).si _ (by omega)) ((gi_s2 _ _ (by omega)).trans (gi_s1 _ _ _ _)) (by omega) (gi_s1 _ _ _ _) hR rfl rfl (fun y hy => absurd hy (by omega))
set_option maxRecDepth 20000 in
theorem tX10_fault {E : zE} {d : Nat} {σ : zM} {S : sS} {t : Int32} (hW : WF S) (hX : RM S σ) : Ret E mX10_fault (d + 3) [zr E 102, .int t] σ (qM σ (spFault S t)) := by
  by_cases h0 : inN t 4
  · obtain ⟨t, ht, rfl⟩ := inN_of h0
    have hc : t < 2 ^ 31 := by omega
    have e0 : spFault S (nI t) = if sT S t = none then sFd S 1 else (fI (sBf (sT S t)), S) := (if_neg (fun q => q h0)).trans (by rw [nI_clamp hc])
    cases ho : sT S t with
    | none =>
      rw [if_pos ho] at e0
      refine Ret.of [some (zr E 102), some (.int (nI t)), none] (by decide +kernel) (Nat.le_of_ble_eq_true rfl) rfl ?_
      refine z_aload_n 1 dX10_fault_0 rfl rfl ?_
      refine z_iload_n 2 dX10_fault_1 rfl rfl ?_
      refine z_cVI1 5 (tX10_aT2 ht hX ho) kX10_askedText dX10_fault_2 rfl lX10_123 (by first | assumption | rfl) (Nat.le_of_ble_eq_true rfl) ?_
      rintro _ _ ⟨e1, e2⟩
      replace e1 := e1.symm
      replace e2 := e2.symm
      subst e1
      subst e2
      refine zs_istore_n_2_3 6 rfl dX10_fault_5 rfl rfl ?_
      refine z_iload_n 7 dX10_fault_6 rfl rfl ?_
      refine z_if_ge 14 10 dX10_fault_7 (by decide) rfl (fun h7 => ?_) (fun h7 => ?_)
      · (try rw [nI_ge0 (by omega)] at h7)
        exact absurd h7 (by decide)
      · (try rw [nI_ge0 (by omega)] at h7)
        refine z_iload_n 11 dX10_fault_10 rfl rfl ?_
        refine z_goto 19 dX10_fault_11 rfl ?_
        refine z_ri dX10_fault_19 rfl ?_
        exact qmf hW e0 (by decide) hX Fr.rf
    | some q =>
      rw [if_neg (by rw [ho]; exact fun h => by cases h), ho] at e0
      have hS : mSh σ 107 108 t 120 (some q) := by rw [← ho]; exact hX.2.1 t ht
      refine Ret.of [some (zr E 102), some (.int (nI t)), none] (by decide +kernel) (Nat.le_of_ble_eq_true rfl) rfl ?_
      refine z_aload_n 1 dX10_fault_0 rfl rfl ?_
      refine z_iload_n 2 dX10_fault_1 rfl rfl ?_
      refine z_cVI1 5 (tX10_aT3 ht hX ho) kX10_askedText dX10_fault_2 rfl lX10_123 (by first | assumption | rfl) (Nat.le_of_ble_eq_true rfl) ?_
      rintro _ _ ⟨e1, e2⟩
      replace e1 := e1.symm
      replace e2 := e2.symm
      subst e1
      subst e2
      refine zs_istore_n_2_3 6 rfl dX10_fault_5 rfl rfl ?_
      refine z_iload_n 7 dX10_fault_6 rfl rfl ?_
      refine z_if_ge 14 10 dX10_fault_7 (by decide) rfl (fun h7 => ?_) (fun h7 => ?_)
      · refine z_aload_n 15 dX10_fault_14 rfl rfl ?_
        refine z_iload_n 16 dX10_fault_15 rfl rfl ?_
        refine z_cVI1 19 (tX10_goesOn ht hS) kX10_goesOn dX10_fault_16 rfl lX10_135 (by first | assumption | rfl) (Nat.le_of_ble_eq_true rfl) ?_
        rintro _ τ1 ⟨e1, hF1, -⟩
        subst e1
        refine z_ri dX10_fault_19 rfl ?_
        exact qm0 e0 (hX.scr hW (hF1.mono (by unfold mS; intros; omega))) (hF1.mono (by intros; omega))
      · exact absurd (nI_pos' (by decide)) h7
  · refine Ret.of [some (zr E 102), some (.int t), none] (by decide +kernel) (Nat.le_of_ble_eq_true rfl) rfl ?_
    refine z_aload_n 1 dX10_fault_0 rfl rfl ?_
    refine z_iload_n 2 dX10_fault_1 rfl rfl ?_
    refine z_cVI1 5 (tX10_aT1 h0) kX10_askedText dX10_fault_2 rfl lX10_123 (by first | assumption | rfl) (Nat.le_of_ble_eq_true rfl) ?_
    rintro _ _ ⟨e1, e2⟩
    replace e1 := e1.symm
    replace e2 := e2.symm
    subst e1
    subst e2
    refine zs_istore_n_2_3 6 rfl dX10_fault_5 rfl rfl ?_
    refine z_iload_n 7 dX10_fault_6 rfl rfl ?_
    refine z_if_ge 14 10 dX10_fault_7 (by decide) rfl (fun h7 => ?_) (fun h7 => ?_)
    · (try rw [nI_ge0 (by omega)] at h7)
      exact absurd h7 (by decide)
    · (try rw [nI_ge0 (by omega)] at h7)
      refine z_iload_n 11 dX10_fault_10 rfl rfl ?_
      refine z_goto 19 dX10_fault_11 rfl ?_
      refine z_ri dX10_fault_19 rfl ?_
      exact qm0 (if_pos h0) hX Fr.rf
theorem RM.B {S : sS} {σ τ : zM} {l : Nat} {q : Nat × (Nat → Int32)} (hW : WF S) (h : RM S σ) (hl : l < 2) (hN : sBf (some q) = none) (hF : Fr (fun x y => x = 102 ∧ (y = 13 ∨ y = 35) ∨ x = 109 ∧ y = l ∨ x = 110 ∧ 80 * l ≤ y ∧ y < 80 * l + 80) σ τ) (h0 : gi τ 102 13 = nI 0) (h00 : gi τ 102 35 = nI 0) (h1 : gi τ 109 l = nI (wc q.2 q.1)) (h2 : ∀ y, y < dc q.2 q.1 → gi τ 110 (80 * l + y) = nI (dg q.2 q.1 y)) : RM (bxS S l (some q)) τ := by
  obtain ⟨-, p2, p3, p4, p5, p6⟩ := pI_all hN
  refine ⟨h.1.fr hF (by intros; omega), h.2.1.fr hF (by intros; omega), fun k hk => ?_, ⟨h0, fun p hp => absurd hp (Nat.not_lt_zero p)⟩, ⟨h00, fun p hp => absurd hp (Nat.not_lt_zero p)⟩, h.2.2.2.2.2.fr hF (by intros; omega)⟩
  by_cases hkl : k = l
  · subst hkl
    refine ⟨?_, fun w hw p hp => ?_⟩
    · rw [h1]
      show nI _ = nI (zu S.2.2.1.1 k (wc q.2 q.1) k)
      unfold zu
      rw [if_pos rfl]
    · have hw' : w < wc q.2 q.1 := by
        have hw2 : w < zu S.2.2.1.1 k (wc q.2 q.1) k := hw
        unfold zu at hw2
        rwa [if_pos rfl] at hw2
      rw [Nat.add_assoc, h2 (10 * w + p) (by omega)]
      show _ = nI (zu S.2.2.1.2 k (fun w p => dg q.2 q.1 (10 * w + p)) k w p)
      unfold zu
      rw [if_pos rfl]
  · have := h.2.2.1 k hk
    have h8 := (hW.1 k hk).1
    refine ⟨?_, fun w hw p hp => ?_⟩
    · rw [hF.gi (by omega), this.1]
      show _ = nI (zu S.2.2.1.1 l (wc q.2 q.1) k)
      unfold zu
      rw [if_neg hkl]
    · have hw' : w < S.2.2.1.1 k := by
        have hw2 : w < zu S.2.2.1.1 l (wc q.2 q.1) k := hw
        unfold zu at hw2
        rwa [if_neg hkl] at hw2
      have h8' : S.2.2.1.1 k ≤ 8 := h8
      rw [hF.gi (by omega), this.2 w hw' p hp]
      show _ = nI (zu S.2.2.1.2 l (fun w p => dg q.2 q.1 (10 * w + p)) k w p)
      unfold zu
      rw [if_neg hkl]
set_option maxRecDepth 20000 in
theorem tX10_box {E : zE} {d : Nat} {σ : zM} {S : sS} {l t : Int32} (hW : WF S) (hX : RM S σ) : Ret E mX10_box (d + 3) [zr E 102, .int l, .int t] σ (qM σ (spBox S l t)) := by
  by_cases hA1 : inN l 2
  · have hA1' := hA1
    obtain ⟨l, hl, rfl⟩ := inN_of hA1
    by_cases h0 : inN t 4
    · obtain ⟨t, ht, rfl⟩ := inN_of h0
      have hc : t < 2 ^ 31 := by omega
      have e0 : spBox S (nI l) (nI t) = _ := if_neg (fun z => z.elim (fun q => q hA1) (fun q => q h0))
      rw [nI_clamp (by omega), nI_clamp (by omega)] at e0
      cases ho : sT S t with
      | none =>
        rw [if_pos ho] at e0
        refine Ret.of [some (zr E 102), some (.int (nI l)), some (.int (nI t)), none, none] (by decide +kernel) (Nat.le_of_ble_eq_true rfl) rfl ?_
        refine z_iload_n 1 dX10_box_0 rfl rfl ?_
        refine z_iconst 2 (v := nI 0) dX10_box_1 rfl rfl ?_
        refine z_iconst 3 (v := nI 1) dX10_box_2 rfl rfl ?_
        refine z_cSI3 6 (tX10_in) kX10_in dX10_box_3 rfl lX10_91 (Nat.le_of_ble_eq_true rfl) ?_
        rintro _ _ ⟨e1, e2⟩
        replace e1 := e1.symm
        replace e2 := e2.symm
        subst e1
        subst e2
        rw [in_k (by decide)]
        refine z_ifb_ne 11 9 dX10_box_6 (by decide) rfl (fun h6 => ?_) (fun h6 => ?_)
        · refine z_aload_n 12 dX10_box_11 rfl rfl ?_
          refine z_iload_n 13 dX10_box_12 rfl rfl ?_
          refine z_cVI1 16 (tX10_aT2 ht hX ho) kX10_askedText dX10_box_13 rfl lX10_123 (by first | assumption | rfl) (Nat.le_of_ble_eq_true rfl) ?_
          rintro _ _ ⟨e1, e2⟩
          replace e1 := e1.symm
          replace e2 := e2.symm
          subst e1
          subst e2
          refine zs_istore_n_3_5 17 rfl dX10_box_16 rfl rfl ?_
          refine z_iload_n 18 dX10_box_17 rfl rfl ?_
          refine z_if_ge 23 21 dX10_box_18 (by decide) rfl (fun h18 => ?_) (fun h18 => ?_)
          · (try rw [nI_ge0 (by omega)] at h18)
            exact absurd h18 (by decide)
          · (try rw [nI_ge0 (by omega)] at h18)
            refine z_iload_n 22 dX10_box_21 rfl rfl ?_
            refine z_ri dX10_box_22 rfl ?_
            exact qmf hW e0 (by decide) hX Fr.rf
        · exact absurd hA1' h6
      | some q =>
        rw [if_neg (by rw [ho]; exact fun h => by cases h), ho] at e0
        have hS : mSh σ 107 108 t 120 (some q) := by rw [← ho]; exact hX.2.1 t ht
        have q120 := hS.1
        by_cases hN : sBf (some q) = none
        · rw [if_neg (fun z => z hN)] at e0
          obtain ⟨-, p2, p3, p4, p5, p6⟩ := pI_all hN
          refine Ret.of [some (zr E 102), some (.int (nI l)), some (.int (nI t)), none, none] (by decide +kernel) (Nat.le_of_ble_eq_true rfl) rfl ?_
          have loop : ∀ ρ, RM S ρ → Fr mAll σ ρ → gi ρ 109 2 = nI (wc q.2 q.1) → (∀ y, y < dc q.2 q.1 → gi ρ 110 (160 + y) = nI (dg q.2 q.1 y)) → ∀ k, k ≤ 80 → ∀ τ, Fr (fun x y => x = 102 ∧ (y = 13 ∨ y = 35) ∨ x = 109 ∧ y = l ∨ x = 110 ∧ 80 * l ≤ y ∧ y < 80 * l + 80) ρ τ → gi τ 109 l = nI (wc q.2 q.1) → (∀ y, y < k → gi τ 110 (80 * l + y) = gi ρ 110 (160 + y)) → At E mX10_box (d + 3) (qM σ (spBox S (nI l) (nI t))) 51 [some (zr E 102), some (.int (nI l)), some (.int (nI t)), none, some (.int (nI k))] [] τ := by
            intro ρ hR hρ h2 hg
            refine z_up (fun k hk ih τ hF hz hv => ?_)
            refine z_iload 53 dX10_box_51 rfl rfl ?_
            refine z_bipush 55 (v := nI 80) dX10_box_53 rfl rfl ?_
            refine z_icmp_ge 87 58 dX10_box_55 (by decide) rfl (fun h55 => ?_) (fun h55 => ?_)
            · (try rw [nI_leI (by omega) (by omega)] at h55)
              refine z_aload_n 88 dX10_box_87 rfl rfl ?_
              refine z_iconst 89 (v := nI 0) dX10_box_88 rfl rfl ?_
              refine pX10_138 92 rfl dX10_box_89 rfl ?_
              refine z_aload_n 93 dX10_box_92 rfl rfl ?_
              refine z_iconst 94 (v := nI 0) dX10_box_93 rfl rfl ?_
              refine pX10_141 97 rfl dX10_box_94 rfl ?_
              refine z_aload_n 98 dX10_box_97 rfl rfl ?_
              refine gX10_32 101 rfl dX10_box_98 rfl ?_
              refine z_iload_n 102 dX10_box_101 rfl rfl ?_
              refine z_ialdn 103 dX10_box_102 rfl (by first | assumption | rfl) (by omega) ?_
              refine z_ri dX10_box_103 rfl ?_
              rw [gi_s2 _ _ (by omega), gi_s2 _ _ (by omega), hz]
              refine qm0 e0 (hR.B hW hl hN ((hF.si _ (by omega)).si _ (by omega)) ((gi_s2 _ _ (by omega)).trans (gi_s1 _ _ _ _)) (gi_s1 _ _ _ _) ((gi_s2 _ _ (by omega)).trans ((gi_s2 _ _ (by omega)).trans hz)) (fun y hy => ?_)) ((hρ.tr hF (fun _ _ h => h) (by intros; omega)).si _ (by show 102 ≤ 102; omega) |>.si _ (by show 102 ≤ 102; omega))
              rw [gi_s2 _ _ (by omega), gi_s2 _ _ (by omega), hv y (by omega)]
              exact hg y hy
            · (try rw [nI_leI (by omega) (by omega)] at h55)
              refine z_aload_n 59 dX10_box_58 rfl rfl ?_
              refine gX10_35 62 rfl dX10_box_59 rfl ?_
              refine z_bipush 64 (v := nI 80) dX10_box_62 rfl rfl ?_
              refine z_iload_n 65 dX10_box_64 rfl rfl ?_
              refine z_imul 66 dX10_box_65 rfl ?_
              refine z_iload 68 dX10_box_66 rfl rfl ?_
              refine z_iadd 69 dX10_box_68 rfl ?_
              rw [nI_mul, nI_add]
              refine z_aload_n 70 dX10_box_69 rfl rfl ?_
              refine gX10_35 73 rfl dX10_box_70 rfl ?_
              refine z_sipush 76 (v := nI 160) dX10_box_73 rfl rfl ?_
              refine z_iload 78 dX10_box_76 rfl rfl ?_
              refine z_iadd 79 dX10_box_78 rfl ?_
              rw [nI_add]
              refine z_ialdn 80 dX10_box_79 rfl (by first | assumption | rfl) (by omega) ?_
              refine z_iastn 81 dX10_box_80 rfl (by first | assumption | rfl) (by omega) ?_
              refine zs_iinc_4_5_1 84 rfl dX10_box_81 rfl rfl ?_
              rw [nI_add]
              refine z_goto 51 dX10_box_84 rfl ?_
              refine ih (k + 1) (by omega) (by omega) _ (hF.si _ (by omega)) (by rw [gi_s2 _ _ (by omega)]; exact hz) (fun y hy => ?_)
              rw [gi_si]
              by_cases hyk : y = k
              · rw [if_pos ⟨rfl, by omega⟩, hyk]; exact hF.gi (by omega)
              · rw [if_neg (by omega)]; exact hv y (by omega)
          refine z_iload_n 1 dX10_box_0 rfl rfl ?_
          refine z_iconst 2 (v := nI 0) dX10_box_1 rfl rfl ?_
          refine z_iconst 3 (v := nI 1) dX10_box_2 rfl rfl ?_
          refine z_cSI3 6 (tX10_in) kX10_in dX10_box_3 rfl lX10_91 (Nat.le_of_ble_eq_true rfl) ?_
          rintro _ _ ⟨e1, e2⟩
          replace e1 := e1.symm
          replace e2 := e2.symm
          subst e1
          subst e2
          rw [in_k (by decide)]
          refine z_ifb_ne 11 9 dX10_box_6 (by decide) rfl (fun h6 => ?_) (fun h6 => ?_)
          · refine z_aload_n 12 dX10_box_11 rfl rfl ?_
            refine z_iload_n 13 dX10_box_12 rfl rfl ?_
            refine z_cVI1 16 (tX10_aT3 ht hX ho) kX10_askedText dX10_box_13 rfl lX10_123 (by first | assumption | rfl) (Nat.le_of_ble_eq_true rfl) ?_
            rintro _ _ ⟨e1, e2⟩
            replace e1 := e1.symm
            replace e2 := e2.symm
            subst e1
            subst e2
            refine zs_istore_n_3_5 17 rfl dX10_box_16 rfl rfl ?_
            refine z_iload_n 18 dX10_box_17 rfl rfl ?_
            refine z_if_ge 23 21 dX10_box_18 (by decide) rfl (fun h18 => ?_) (fun h18 => ?_)
            · refine z_aload_n 24 dX10_box_23 rfl rfl ?_
              refine z_iload_n 25 dX10_box_24 rfl rfl ?_
              refine z_cVI1 28 (tX10_goesOn ht hS) kX10_goesOn dX10_box_25 rfl lX10_135 (by first | assumption | rfl) (Nat.le_of_ble_eq_true rfl) ?_
              rintro _ τ1 ⟨e1, hF1, hG1⟩
              subst e1
              obtain ⟨g1, g2⟩ := hG1 hN
              refine z_bipush 30 (v := (-9)) dX10_box_28 rfl rfl ?_
              refine z_icmp_eq 36 33 dX10_box_30 (by decide) rfl (fun h30 => ?_) (fun h30 => ?_)
              · (try rw [nI_eq (by omega) (by omega)] at h30)
                refine z_aload_n 37 dX10_box_36 rfl rfl ?_
                refine gX10_32 40 rfl dX10_box_37 rfl ?_
                refine z_iload_n 41 dX10_box_40 rfl rfl ?_
                refine z_aload_n 42 dX10_box_41 rfl rfl ?_
                refine gX10_32 45 rfl dX10_box_42 rfl ?_
                refine z_iconst 46 (v := nI 2) dX10_box_45 rfl rfl ?_
                refine z_ialdn 47 dX10_box_46 rfl (by first | assumption | rfl) (by omega) ?_
                rw [g1]
                refine z_iastn 48 dX10_box_47 rfl (by first | assumption | rfl) (by omega) ?_
                refine z_iconst 49 (v := nI 0) dX10_box_48 rfl rfl ?_
                refine zs_istore_4_5 51 rfl dX10_box_49 rfl rfl ?_
                exact zf_3_5 (loop τ1 (hX.scr hW (hF1.mono (by unfold mS; intros; omega))) (hF1.mono (by intros; omega)) g1 g2 0 (by omega) _ (Fr.rf.si _ (by omega)) (gi_s1 _ _ _ _) (fun y hy => absurd hy (Nat.not_lt_zero y)))
              · (try rw [nI_eq (by omega) (by omega)] at h30)
                exact absurd ((sBf_none q120).mpr hN) h30
            · exact absurd (nI_pos' (by decide)) h18
          · exact absurd hA1' h6
        · rw [if_pos hN] at e0
          refine Ret.of [some (zr E 102), some (.int (nI l)), some (.int (nI t)), none, none] (by decide +kernel) (Nat.le_of_ble_eq_true rfl) rfl ?_
          refine z_iload_n 1 dX10_box_0 rfl rfl ?_
          refine z_iconst 2 (v := nI 0) dX10_box_1 rfl rfl ?_
          refine z_iconst 3 (v := nI 1) dX10_box_2 rfl rfl ?_
          refine z_cSI3 6 (tX10_in) kX10_in dX10_box_3 rfl lX10_91 (Nat.le_of_ble_eq_true rfl) ?_
          rintro _ _ ⟨e1, e2⟩
          replace e1 := e1.symm
          replace e2 := e2.symm
          subst e1
          subst e2
          rw [in_k (by decide)]
          refine z_ifb_ne 11 9 dX10_box_6 (by decide) rfl (fun h6 => ?_) (fun h6 => ?_)
          · refine z_aload_n 12 dX10_box_11 rfl rfl ?_
            refine z_iload_n 13 dX10_box_12 rfl rfl ?_
            refine z_cVI1 16 (tX10_aT3 ht hX ho) kX10_askedText dX10_box_13 rfl lX10_123 (by first | assumption | rfl) (Nat.le_of_ble_eq_true rfl) ?_
            rintro _ _ ⟨e1, e2⟩
            replace e1 := e1.symm
            replace e2 := e2.symm
            subst e1
            subst e2
            refine zs_istore_n_3_5 17 rfl dX10_box_16 rfl rfl ?_
            refine z_iload_n 18 dX10_box_17 rfl rfl ?_
            refine z_if_ge 23 21 dX10_box_18 (by decide) rfl (fun h18 => ?_) (fun h18 => ?_)
            · refine z_aload_n 24 dX10_box_23 rfl rfl ?_
              refine z_iload_n 25 dX10_box_24 rfl rfl ?_
              refine z_cVI1 28 (tX10_goesOn ht hS) kX10_goesOn dX10_box_25 rfl lX10_135 (by first | assumption | rfl) (Nat.le_of_ble_eq_true rfl) ?_
              rintro _ τ1 ⟨e1, hF1, -⟩
              subst e1
              refine z_bipush 30 (v := (-9)) dX10_box_28 rfl rfl ?_
              refine z_icmp_eq 36 33 dX10_box_30 (by decide) rfl (fun h30 => ?_) (fun h30 => ?_)
              · (try rw [nI_eq (by omega) (by omega)] at h30)
                exact absurd ((sBf_none q120).mp h30) hN
              · (try rw [nI_eq (by omega) (by omega)] at h30)
                refine z_bipush 35 (v := (-4)) dX10_box_33 rfl rfl ?_
                refine z_ri dX10_box_35 rfl ?_
                exact qm0 e0 (hX.scr hW (hF1.mono (by unfold mS; intros; omega))) (hF1.mono (by intros; omega))
            · exact absurd (nI_pos' (by decide)) h18
          · exact absurd hA1' h6
    · refine Ret.of [some (zr E 102), some (.int (nI l)), some (.int t), none, none] (by decide +kernel) (Nat.le_of_ble_eq_true rfl) rfl ?_
      refine z_iload_n 1 dX10_box_0 rfl rfl ?_
      refine z_iconst 2 (v := nI 0) dX10_box_1 rfl rfl ?_
      refine z_iconst 3 (v := nI 1) dX10_box_2 rfl rfl ?_
      refine z_cSI3 6 (tX10_in) kX10_in dX10_box_3 rfl lX10_91 (Nat.le_of_ble_eq_true rfl) ?_
      rintro _ _ ⟨e1, e2⟩
      replace e1 := e1.symm
      replace e2 := e2.symm
      subst e1
      subst e2
      rw [in_k (by decide)]
      refine z_ifb_ne 11 9 dX10_box_6 (by decide) rfl (fun h6 => ?_) (fun h6 => ?_)
      · refine z_aload_n 12 dX10_box_11 rfl rfl ?_
        refine z_iload_n 13 dX10_box_12 rfl rfl ?_
        refine z_cVI1 16 (tX10_aT1 h0) kX10_askedText dX10_box_13 rfl lX10_123 (by first | assumption | rfl) (Nat.le_of_ble_eq_true rfl) ?_
        rintro _ _ ⟨e1, e2⟩
        replace e1 := e1.symm
        replace e2 := e2.symm
        subst e1
        subst e2
        refine zs_istore_n_3_5 17 rfl dX10_box_16 rfl rfl ?_
        refine z_iload_n 18 dX10_box_17 rfl rfl ?_
        refine z_if_ge 23 21 dX10_box_18 (by decide) rfl (fun h18 => ?_) (fun h18 => ?_)
        · (try rw [nI_ge0 (by omega)] at h18)
          exact absurd h18 (by decide)
        · (try rw [nI_ge0 (by omega)] at h18)
          refine z_iload_n 22 dX10_box_21 rfl rfl ?_
          refine z_ri dX10_box_22 rfl ?_
          exact qm0 (if_pos (Or.inr h0)) hX Fr.rf
      · exact absurd hA1' h6
  · refine Ret.of [some (zr E 102), some (.int l), some (.int t), none, none] (by decide +kernel) (Nat.le_of_ble_eq_true rfl) rfl ?_
    refine z_iload_n 1 dX10_box_0 rfl rfl ?_
    refine z_iconst 2 (v := nI 0) dX10_box_1 rfl rfl ?_
    refine z_iconst 3 (v := nI 1) dX10_box_2 rfl rfl ?_
    refine z_cSI3 6 (tX10_in) kX10_in dX10_box_3 rfl lX10_91 (Nat.le_of_ble_eq_true rfl) ?_
    rintro _ _ ⟨e1, e2⟩
    replace e1 := e1.symm
    replace e2 := e2.symm
    subst e1
    subst e2
    rw [in_k (by decide)]
    refine z_ifb_ne 11 9 dX10_box_6 (by decide) rfl (fun h6 => ?_) (fun h6 => ?_)
    · exact absurd h6 hA1
    · refine z_iconst 10 (v := (-1)) dX10_box_9 rfl rfl ?_
      refine z_ri dX10_box_10 rfl ?_
      exact qm0 (if_pos (Or.inl hA1)) hX Fr.rf
theorem WF_box {S : sS} (hW : WF S) (l t : Int32) : WF (spBox S l t).2 := by
  unfold spBox
  split
  · exact hW
  · rename_i hA
    have hl : inN l 2 := Classical.byContradiction fun q => hA (Or.inl q)
    split
    · exact hW
    · split
      · exact hW
      · rename_i hN
        have hN := Classical.not_not.mp hN
        cases ho : sT S t.toNatClampNeg with
        | none => exact hW
        | some q =>
          rw [ho] at hN
          obtain ⟨-, p2, p3, p4, p5, p6⟩ := pI_all hN
          refine ⟨fun k hk => ?_, ⟨Nat.zero_le _, fun p hp => absurd hp (Nat.not_lt_zero p)⟩, ⟨Nat.zero_le _, fun p hp => absurd hp (Nat.not_lt_zero p)⟩⟩
          show zu S.2.2.1.1 l.toNatClampNeg (wc q.2 q.1) k ≤ 8 ∧ ∀ w, w < zu S.2.2.1.1 l.toNatClampNeg (wc q.2 q.1) k → (∀ p, p < 10 → zu S.2.2.1.2 l.toNatClampNeg (fun w p => dg q.2 q.1 (10 * w + p)) k w p ≤ 9) ∧ ∃ p, p < 10 ∧ 0 < zu S.2.2.1.2 l.toNatClampNeg (fun w p => dg q.2 q.1 (10 * w + p)) k w p
          unfold zu
          by_cases hkl : k = l.toNatClampNeg
          · rw [if_pos hkl, if_pos hkl]
            exact ⟨p3, fun w hw => ⟨fun p hp => p5 _ (by omega), p6 w hw⟩⟩
          · rw [if_neg hkl, if_neg hkl]
            exact hW.1 k hk
