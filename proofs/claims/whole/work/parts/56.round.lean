/-! the round of the landed code -/
def RdT (σ : zM) (n bw : Nat) (t : Nat → Nat) : Prop := gi σ 13 5 = nI n ∧ gi σ 13 6 = nI bw ∧ ∀ i, i < n → gi σ 15 i = nI (t i)
theorem RdT.fr {P : Nat → Nat → Prop} {σ τ : zM} {n bw : Nat} {t : Nat → Nat} (h : RdT σ n bw t) (hF : Fr P σ τ) (h1 : ¬ P 13 5) (h2 : ¬ P 13 6) (h3 : ∀ i, ¬ P 15 i) : RdT τ n bw t := ⟨(hF.gi h1).trans h.1, (hF.gi h2).trans h.2.1, fun i hi => (hF.gi (h3 i)).trans (h.2.2 i hi)⟩
def StK (S : sS) (σ : zM) (p q : Nat) : Prop := ∀ w, w < sBw S 0 → ∀ v, v < sBw S 0 → gi σ 14 ((p * 8 + q) * 64 + w * 8 + v) = nI (stp S p q w v)
abbrev fLs (p q x y : Nat) : Prop := 8 ≤ x ∧ x ≤ 12 ∨ x = 14 ∧ (p * 8 + q) * 64 ≤ y ∧ y < (p * 8 + q) * 64 + 64
theorem StK.keep {S : sS} {σ τ : zM} {p q a b : Nat} (hb8 : sBw S 0 ≤ 8) (h : StK S σ a b) (hF : Fr (fLs p q) σ τ) (h2 : StK S τ p q) (hp : p < 8) (hq : q < 8) (ha : a < 8) (hb : b < 8) : StK S τ a b := by
  by_cases he : a = p ∧ b = q
  · rw [he.1, he.2]
    exact h2
  · intro w hw v hv
    rw [hF.gi (by omega)]
    exact h w hw v hv
theorem StK.fr {S : sS} {P : Nat → Nat → Prop} {σ τ : zM} {p q : Nat} (h : StK S σ p q) (hF : Fr P σ τ) (h1 : ∀ j, ¬ P 14 j) : StK S τ p q := fun w hw v hv => (hF.gi (h1 _)).trans (h w hw v hv)
set_option maxRecDepth 20000 in
theorem tX5_seat {E : zE} {d : Nat} {σ : zM} {a bw : Nat} {q : Nat × (Nat → Int32)} {t : Nat → Nat} (hk : (kd a).1 = 7) (hk1 : kd (a + 1) = (11, 40)) (ha : 24 ≤ a) (hS : Sh σ a 40 (some q)) (h8 : q.1 ≤ 8) (hb : bw ≤ 8) (ht : ∀ i, i < q.1 → q.2 i = nI (t i)) : Ret E mX5_seat (d + 2) [zr E 13, zr E a, .int (nI bw)] σ (qV fun τ => Fr (fun x y => x = 13 ∧ (y = 5 ∨ y = 6) ∨ x = 15) σ τ ∧ RdT τ q.1 bw t) := by
  obtain ⟨c1, c2, c3⟩ := hS
  refine Ret.of [some (zr E 13), some (zr E a), some (.int (nI bw)), none] (by decide +kernel) (Nat.le_of_ble_eq_true rfl) rfl ?_
  have loop : ∀ i, i ≤ q.1 → ∀ τ, Fr (fun x y => x = 13 ∧ (y = 5 ∨ y = 6) ∨ x = 15) σ τ → gi τ 13 5 = nI q.1 → gi τ 13 6 = nI bw → (∀ k, k < i → gi τ 15 k = nI (t k)) → At E mX5_seat (d + 2) (qV fun τ => Fr (fun x y => x = 13 ∧ (y = 5 ∨ y = 6) ∨ x = 15) σ τ ∧ RdT τ q.1 bw t) 25 [some (zr E 13), some (zr E a), some (.int (nI bw)), some (.int (nI i))] [] τ := by
    refine z_up (fun i hi ih τ hF hn hw hv => ?_)
    have hs : gi τ a 1 = nI q.1 := (hF.gi (by omega)).trans c2
    by_cases hie : i = q.1
    · rw [hie] at hv
      refine z_iload_n 26 dX5_seat_25 rfl rfl ?_
      refine z_aload_n 27 dX5_seat_26 rfl rfl ?_
      refine gX5_43 30 rfl dX5_seat_27 rfl (by first | assumption | rfl) ?_
      rw [hn]
      refine z_icmp_ge 50 33 dX5_seat_30 (by decide) rfl (fun h30 => ?_) (fun h30 => ?_)
      · (try rw [nI_leI (by omega) (by omega)] at h30)
        refine z_rv dX5_seat_50 rfl ?_
        exact ⟨hF, hn, hw, hv⟩
      · (try rw [nI_leI (by omega) (by omega)] at h30)
        omega
    · have hvi : gi τ (a + 1) i = nI (t i) := ((hF.gi (by omega)).trans (c3 i (by omega))).trans (ht i (by omega))
      have hf : Fr (fun x y => x = 15) τ (si τ 15 i (nI (t i))) := Fr.rf.si _ rfl
      refine z_iload_n 26 dX5_seat_25 rfl rfl ?_
      refine z_aload_n 27 dX5_seat_26 rfl rfl ?_
      refine gX5_43 30 rfl dX5_seat_27 rfl (by first | assumption | rfl) ?_
      rw [hn]
      refine z_icmp_ge 50 33 dX5_seat_30 (by decide) rfl (fun h30 => ?_) (fun h30 => ?_)
      · (try rw [nI_leI (by omega) (by omega)] at h30)
        omega
      · (try rw [nI_leI (by omega) (by omega)] at h30)
        refine z_aload_n 34 dX5_seat_33 rfl rfl ?_
        refine gX5_15 37 rfl dX5_seat_34 rfl (by first | assumption | rfl) ?_
        refine z_iload_n 38 dX5_seat_37 rfl rfl ?_
        refine z_aload_n 39 dX5_seat_38 rfl rfl ?_
        refine z_iload_n 40 dX5_seat_39 rfl rfl ?_
        refine z_cVI1 43 (tX7_get hk hk1 hs c1 (show i < q.1 by omega)) kX7_get dX5_seat_40 rfl lX5_44 (by first | assumption | rfl) (Nat.le_of_ble_eq_true rfl) ?_
        rintro _ _ ⟨e1, e2⟩
        replace e1 := e1.symm
        replace e2 := e2.symm
        subst e1
        subst e2
        rw [hvi]
        refine z_iastn 44 dX5_seat_43 rfl (by first | assumption | rfl) (by omega) ?_
        refine zs_iinc_3_4_1 47 rfl dX5_seat_44 rfl rfl ?_
        rw [nI_add]
        refine z_goto 25 dX5_seat_47 rfl ?_
        exact ih (i + 1) (by omega) (by omega) _ (hF.tr hf (fun _ _ h => h) (by intros; omega)) ((gi_s2 _ _ (by omega)).trans hn) ((gi_s2 _ _ (by omega)).trans hw) (fun k hk => by
          rw [gi_si]
          by_cases hki : k = i
          · rw [if_pos ⟨rfl, hki⟩, hki]
          · rw [if_neg (fun z => hki z.2)]; exact hv k (by omega))
  refine z_aload_n 1 dX5_seat_0 rfl rfl ?_
  refine z_iload_n 2 dX5_seat_1 rfl rfl ?_
  refine z_bipush 4 (v := nI 8) dX5_seat_2 rfl rfl ?_
  refine z_mmin 7 dX5_seat_4 rfl lX5_28 kM_min_s kM_i kM_min_c (Nat.le_of_ble_eq_true rfl) ?_
  rw [nI_min (by omega) (by omega), Nat.min_eq_left hb]
  refine pX5_34 10 rfl dX5_seat_7 rfl (by first | assumption | rfl) ?_
  refine z_aload_n 11 dX5_seat_10 rfl rfl ?_
  refine z_aload_n 12 dX5_seat_11 rfl rfl ?_
  refine gX5_38 15 rfl dX5_seat_12 rfl (by first | assumption | rfl) ?_
  rw [gi_s2 _ _ (by omega), c2]
  refine z_bipush 17 (v := nI 8) dX5_seat_15 rfl rfl ?_
  refine z_mmin 20 dX5_seat_17 rfl lX5_28 kM_min_s kM_i kM_min_c (Nat.le_of_ble_eq_true rfl) ?_
  rw [nI_min (by omega) (by omega), Nat.min_eq_left h8]
  refine pX5_43 23 rfl dX5_seat_20 rfl (by first | assumption | rfl) ?_
  refine z_iconst 24 (v := nI 0) dX5_seat_23 rfl rfl ?_
  refine zs_istore_n_3_4 25 rfl dX5_seat_24 rfl rfl ?_
  exact loop 0 (Nat.zero_le _) _ ((Fr.rf.si _ (by omega)).si _ (by omega)) (gi_s1 _ _ _ _) ((gi_s2 _ _ (by omega)).trans (gi_s1 _ _ _ _)) (fun k hk => absurd hk (Nat.not_lt_zero k))
set_option maxRecDepth 20000 in
theorem tX5_learn {E : zE} {d : Nat} {σ : zM} {p q w bw : Nat} {f : Nat → Nat} (hp : p < 8) (hq : q < 8) (hw : w < bw) (hb8 : bw ≤ 8) (hr : gi σ 13 6 = nI bw) (hs : gi σ 10 2 = nI bw) (hv : ∀ v, v < bw → gi σ 12 v = nI (f v)) : Ret E mX5_learn (d + 1) [zr E 13, .int (nI p), .int (nI q), .int (nI w), zr E 10] σ (qV fun τ => Fr (fun x y => x = 14 ∧ (p * 8 + q) * 64 + w * 8 ≤ y ∧ y < (p * 8 + q) * 64 + w * 8 + 8) σ τ ∧ ∀ v, v < bw → gi τ 14 ((p * 8 + q) * 64 + w * 8 + v) = nI (f v)) := by
  refine Ret.of [some (zr E 13), some (.int (nI p)), some (.int (nI q)), some (.int (nI w)), some (zr E 10), none, none] (by decide +kernel) (Nat.le_of_ble_eq_true rfl) rfl ?_
  have loop : ∀ i, i ≤ bw → ∀ τ, Fr (fun x y => x = 14 ∧ (p * 8 + q) * 64 + w * 8 ≤ y ∧ y < (p * 8 + q) * 64 + w * 8 + 8) σ τ → (∀ v, v < i → gi τ 14 ((p * 8 + q) * 64 + w * 8 + v) = nI (f v)) → At E mX5_learn (d + 1) (qV fun τ => Fr (fun x y => x = 14 ∧ (p * 8 + q) * 64 + w * 8 ≤ y ∧ y < (p * 8 + q) * 64 + w * 8 + 8) σ τ ∧ ∀ v, v < bw → gi τ 14 ((p * 8 + q) * 64 + w * 8 + v) = nI (f v)) 41 [some (zr E 13), some (.int (nI p)), some (.int (nI q)), some (.int (nI w)), some (zr E 10), some (.int (nI ((p * 8 + q) * 64 + w * 8))), some (.int (nI i))] [] τ := by
    refine z_up (fun i hi ih τ hF hd => ?_)
    have hr' : gi τ 13 6 = nI bw := (hF.gi (by omega)).trans hr
    by_cases hie : i = bw
    · rw [hie] at hd
      refine z_iload 43 dX5_learn_41 rfl rfl ?_
      refine z_aload_n 44 dX5_learn_43 rfl rfl ?_
      refine gX5_34 47 rfl dX5_learn_44 rfl (by first | assumption | rfl) ?_
      rw [hr']
      refine z_icmp_ge 73 50 dX5_learn_47 (by decide) rfl (fun h47 => ?_) (fun h47 => ?_)
      · (try rw [nI_leI (by omega) (by omega)] at h47)
        refine z_rv dX5_learn_73 rfl ?_
        exact ⟨hF, hd⟩
      · (try rw [nI_leI (by omega) (by omega)] at h47)
        omega
    · have hvi : gi τ 12 i = nI (f i) := (hF.gi (by omega)).trans (hv i (by omega))
      refine z_iload 43 dX5_learn_41 rfl rfl ?_
      refine z_aload_n 44 dX5_learn_43 rfl rfl ?_
      refine gX5_34 47 rfl dX5_learn_44 rfl (by first | assumption | rfl) ?_
      rw [hr']
      refine z_icmp_ge 73 50 dX5_learn_47 (by decide) rfl (fun h47 => ?_) (fun h47 => ?_)
      · (try rw [nI_leI (by omega) (by omega)] at h47)
        omega
      · (try rw [nI_leI (by omega) (by omega)] at h47)
        refine z_aload_n 51 dX5_learn_50 rfl rfl ?_
        refine gX5_9 54 rfl dX5_learn_51 rfl (by first | assumption | rfl) ?_
        refine z_iload 56 dX5_learn_54 rfl rfl ?_
        refine z_iload 58 dX5_learn_56 rfl rfl ?_
        refine z_iadd 59 dX5_learn_58 rfl ?_
        rw [nI_add]
        refine z_aload 61 dX5_learn_59 rfl rfl ?_
        refine z_iload 63 dX5_learn_61 rfl rfl ?_
        refine z_cVI1 66 (tX6_get hb8 ((hF.gi (by omega)).trans hs) (show i < bw by omega)) kX6_get dX5_learn_63 rfl lX5_48 (by first | assumption | rfl) (Nat.le_of_ble_eq_true rfl) ?_
        rintro _ _ ⟨e1, e2⟩
        replace e1 := e1.symm
        replace e2 := e2.symm
        subst e1
        subst e2
        rw [hvi]
        refine z_iastn 67 dX5_learn_66 rfl (by first | assumption | rfl) (by omega) ?_
        refine zs_iinc_6_7_1 70 rfl dX5_learn_67 rfl rfl ?_
        rw [nI_add]
        refine z_goto 41 dX5_learn_70 rfl ?_
        exact ih (i + 1) (by omega) (by omega) _ (hF.si _ (by omega)) (fun v hvv => by
          rw [gi_si]
          by_cases hki : v = i
          · rw [if_pos ⟨rfl, by omega⟩, hki]
          · rw [if_neg (fun z => hki (by omega))]; exact hd v (by omega))
  refine z_iload_n 1 dX5_learn_0 rfl rfl ?_
  refine z_bipush 3 (v := nI 8) dX5_learn_1 rfl rfl ?_
  refine z_imul 4 dX5_learn_3 rfl ?_
  rw [nI_mul]
  refine z_iload_n 5 dX5_learn_4 rfl rfl ?_
  refine z_iadd 6 dX5_learn_5 rfl ?_
  rw [nI_add]
  refine z_bipush 8 (v := nI 8) dX5_learn_6 rfl rfl ?_
  refine z_imul 9 dX5_learn_8 rfl ?_
  rw [nI_mul]
  refine z_bipush 11 (v := nI 8) dX5_learn_9 rfl rfl ?_
  refine z_imul 12 dX5_learn_11 rfl ?_
  rw [nI_mul]
  refine z_iload_n 13 dX5_learn_12 rfl rfl ?_
  refine z_bipush 15 (v := nI 8) dX5_learn_13 rfl rfl ?_
  refine z_imul 16 dX5_learn_15 rfl ?_
  rw [nI_mul]
  refine z_iadd 17 dX5_learn_16 rfl ?_
  rw [nI_add, show (p * 8 + q) * 8 * 8 + w * 8 = (p * 8 + q) * 64 + w * 8 by omega]
  refine zs_istore_5_7 19 rfl dX5_learn_17 rfl rfl ?_
  refine z_iload 21 dX5_learn_19 rfl rfl ?_
  refine z_if_lt 37 24 dX5_learn_21 (by decide) rfl (fun h21 => ?_) (fun h21 => ?_)
  · (try rw [nI_lt0 (by omega)] at h21)
    exact h21.elim
  · (try rw [nI_lt0 (by omega)] at h21)
    refine z_iload 26 dX5_learn_24 rfl rfl ?_
    refine z_bipush 28 (v := nI 8) dX5_learn_26 rfl rfl ?_
    refine z_iadd 29 dX5_learn_28 rfl ?_
    rw [nI_add]
    refine z_aload_n 30 dX5_learn_29 rfl rfl ?_
    refine gX5_9 33 rfl dX5_learn_30 rfl (by first | assumption | rfl) ?_
    refine z_alen 34 dX5_learn_33 rfl (by first | assumption | rfl) ?_
    refine z_icmp_le 38 37 dX5_learn_34 (by decide) rfl (fun h34 => ?_) (fun h34 => ?_)
    · (try rw [nI_leI (by omega) (by omega)] at h34)
      refine z_iconst 39 (v := nI 0) dX5_learn_38 rfl rfl ?_
      refine zs_istore_6_7 41 rfl dX5_learn_39 rfl rfl ?_
      exact loop 0 (Nat.zero_le _) σ Fr.rf (fun v hvv => absurd hvv (Nat.not_lt_zero v))
    · (try rw [nI_leI (by omega) (by omega)] at h34)
      omega
set_option maxRecDepth 20000 in
theorem tX9_learnStep {E : zE} {d : Nat} {σ : zM} {S : sS} {p q : Nat} (hW : WF S) (hX : RX S σ) (hp : p < sPc S) (hq : q < sPc S) (hr : gi σ 13 6 = nI (sBw S 0)) : Ret E mX9_learnStep (d + 3) [zr E 0, .int (nI p), .int (nI q)] σ (qV fun τ => Fr (fLs p q) σ τ ∧ RX S τ ∧ StK S τ p q) := by
  have h8 := hW.2.1.1
  have hb8 := bw_le hW (show 0 < 2 by omega)
  have hcp := kd_p (show p < 8 by omega)
  have hcq := kd_p (show q < 8 by omega)
  have i1 : inN (nI p) (sPc S) := inN_nI hp (by omega)
  have i2 : inN (nI q) (sPc S) := inN_nI hq (by omega)
  refine Ret.of [some (zr E 0), some (.int (nI p)), some (.int (nI q)), none] (by decide +kernel) (Nat.le_of_ble_eq_true rfl) rfl ?_
  have loop : ∀ i, i ≤ sBw S 0 → ∀ τ, Fr (fLs p q) σ τ → RX S τ → (∀ w, w < i → ∀ v, v < sBw S 0 → gi τ 14 ((p * 8 + q) * 64 + w * 8 + v) = nI (stp S p q w v)) → At E mX9_learnStep (d + 3) (qV fun τ => Fr (fLs p q) σ τ ∧ RX S τ ∧ StK S τ p q) 19 [some (zr E 0), some (.int (nI p)), some (.int (nI q)), some (.int (nI i))] [] τ := by
    refine z_up (fun i hi ih τ hF hR hd => ?_)
    have hr' : gi τ 13 6 = nI (sBw S 0) := (hF.gi (by omega)).trans hr
    by_cases hie : i = sBw S 0
    · rw [hie] at hd
      refine z_iload_n 20 dX9_learnStep_19 rfl rfl ?_
      refine z_aload_n 21 dX9_learnStep_20 rfl rfl ?_
      refine gX9_60 24 rfl dX9_learnStep_21 rfl ?_
      refine gX9_256 27 rfl dX9_learnStep_24 rfl (by first | assumption | rfl) ?_
      rw [hr']
      refine z_icmp_ge 87 30 dX9_learnStep_27 (by decide) rfl (fun h27 => ?_) (fun h27 => ?_)
      · (try rw [nI_leI (by omega) (by omega)] at h27)
        refine z_rv dX9_learnStep_87 rfl ?_
        exact ⟨hF, hR, hd⟩
      · (try rw [nI_leI (by omega) (by omega)] at h27)
        omega
    · have hil : i < sBw S 0 := by omega
      refine z_iload_n 20 dX9_learnStep_19 rfl rfl ?_
      refine z_aload_n 21 dX9_learnStep_20 rfl rfl ?_
      refine gX9_60 24 rfl dX9_learnStep_21 rfl ?_
      refine gX9_256 27 rfl dX9_learnStep_24 rfl (by first | assumption | rfl) ?_
      rw [hr']
      refine z_icmp_ge 87 30 dX9_learnStep_27 (by decide) rfl (fun h27 => ?_) (fun h27 => ?_)
      · (try rw [nI_leI (by omega) (by omega)] at h27)
        omega
      · (try rw [nI_leI (by omega) (by omega)] at h27)
        refine z_aload_n 31 dX9_learnStep_30 rfl rfl ?_
        refine gX9_46 34 rfl dX9_learnStep_31 rfl ?_
        refine z_aload_n 35 dX9_learnStep_34 rfl rfl ?_
        refine gX9_26 38 rfl dX9_learnStep_35 rfl ?_
        refine z_iload_n 39 dX9_learnStep_38 rfl rfl ?_
        refine z_aald4 40 dX9_learnStep_39 rfl (by omega) ?_
        refine z_iload_n 41 dX9_learnStep_40 rfl rfl ?_
        refine z_cVV2 44 (tX2_drawS hW hR hp hil) kX2_drawBy dX9_learnStep_41 rfl lX9_185 (by first | assumption | rfl) (Nat.le_of_ble_eq_true rfl) ?_
        rintro τ1 ⟨hF1, hX1, hD1⟩
        refine z_aload_n 45 dX9_learnStep_44 rfl rfl ?_
        refine gX9_53 48 rfl dX9_learnStep_45 rfl ?_
        refine z_aload_n 49 dX9_learnStep_48 rfl rfl ?_
        refine gX9_26 52 rfl dX9_learnStep_49 rfl ?_
        refine z_iload_n 53 dX9_learnStep_52 rfl rfl ?_
        refine z_aald4 54 dX9_learnStep_53 rfl (by omega) ?_
        refine z_aload_n 55 dX9_learnStep_54 rfl rfl ?_
        refine gX9_46 58 rfl dX9_learnStep_55 rfl ?_
        refine z_aload_n 59 dX9_learnStep_58 rfl rfl ?_
        refine gX9_26 62 rfl dX9_learnStep_59 rfl ?_
        refine z_iload_n 63 dX9_learnStep_62 rfl rfl ?_
        refine z_aald4 64 dX9_learnStep_63 rfl (by omega) ?_
        refine z_cVV3 67 (tX6_reckonS (o := some p) hW hX1 hq hD1 (dS_pts hW hp hil) (hX1.by hW hp)) kX6_reckon dX9_learnStep_64 rfl lX9_225 (by first | assumption | rfl) (Nat.le_of_ble_eq_true rfl) ?_
        rintro τ2 ⟨hF2, hX2, hS2⟩
        have hF3 : Fr (fLs p q) σ τ2 := (hF.tr hF1 (R := fLs p q) (fun _ _ h => h) (by intros; omega)).tr hF2 (fun _ _ h => h) (by intros; omega)
        have hr2 : gi τ2 13 6 = nI (sBw S 0) := (hF3.gi (by omega)).trans hr
        have hd2 : ∀ w, w < i → ∀ v, v < sBw S 0 → gi τ2 14 ((p * 8 + q) * 64 + w * 8 + v) = nI (stp S p q w v) := fun w hw v hv => ((hF2.gi (by omega)).trans (hF1.gi (by omega))).trans (hd w hw v hv)
        refine z_aload_n 68 dX9_learnStep_67 rfl rfl ?_
        refine gX9_60 71 rfl dX9_learnStep_68 rfl ?_
        refine z_iload_n 72 dX9_learnStep_71 rfl rfl ?_
        refine z_iload_n 73 dX9_learnStep_72 rfl rfl ?_
        refine z_iload_n 74 dX9_learnStep_73 rfl rfl ?_
        refine z_aload_n 75 dX9_learnStep_74 rfl rfl ?_
        refine gX9_53 78 rfl dX9_learnStep_75 rfl ?_
        refine z_cVV4 81 (tX5_learn (f := stp S p q i) (show p < 8 by omega) (show q < 8 by omega) hil hb8 hr2 hS2.1 (fun v hv => hS2.2.2 v hv)) kX5_learn dX9_learnStep_78 rfl lX9_430 (by first | assumption | rfl) (Nat.le_of_ble_eq_true rfl) ?_
        rintro τ3 ⟨hF4, hv4⟩
        have hX3 : RX S τ3 := hX2.scr hW (hF4.mono (by unfold xS; intros; omega))
        refine zs_iinc_3_4_1 84 rfl dX9_learnStep_81 rfl rfl ?_
        rw [nI_add]
        refine z_goto 19 dX9_learnStep_84 rfl ?_
        exact ih (i + 1) (by omega) (by omega) τ3 (hF3.tr hF4 (fun _ _ h => h) (by intros; omega)) hX3 (fun w hw v hv => by
          by_cases hwi : w = i
          · rw [hwi]; exact hv4 v hv
          · exact (hF4.gi (by omega)).trans (hd2 w (by omega) v hv))
  refine z_aload_n 1 dX9_learnStep_0 rfl rfl ?_
  refine z_iload_n 2 dX9_learnStep_1 rfl rfl ?_
  refine z_cVI1 5 (tX9_isPl (by assumption) (by assumption)) kX9_isPlayer dX9_learnStep_2 rfl lX9_176 (by first | assumption | rfl) (Nat.le_of_ble_eq_true rfl) ?_
  rintro _ _ ⟨e1, e2⟩
  replace e1 := e1.symm
  replace e2 := e2.symm
  subst e1
  subst e2
  refine z_ifb_eq 16 8 dX9_learnStep_5 (by decide) rfl (fun h5 => ?_) (fun h5 => ?_)
  · exact absurd i1 h5
  · refine z_aload_n 9 dX9_learnStep_8 rfl rfl ?_
    refine z_iload_n 10 dX9_learnStep_9 rfl rfl ?_
    refine z_cVI1 13 (tX9_isPl (by assumption) (by assumption)) kX9_isPlayer dX9_learnStep_10 rfl lX9_176 (by first | assumption | rfl) (Nat.le_of_ble_eq_true rfl) ?_
    rintro _ _ ⟨e1, e2⟩
    replace e1 := e1.symm
    replace e2 := e2.symm
    subst e1
    subst e2
    refine z_ifb_ne 17 16 dX9_learnStep_13 (by decide) rfl (fun h13 => ?_) (fun h13 => ?_)
    · refine z_iconst 18 (v := nI 0) dX9_learnStep_17 rfl rfl ?_
      refine zs_istore_n_3_4 19 rfl dX9_learnStep_18 rfl rfl ?_
      exact loop 0 (Nat.zero_le _) σ Fr.rf hX (fun w hw => absurd hw (Nat.not_lt_zero w))
    · exact absurd i2 h13
abbrev fSt (x y : Nat) : Prop := 8 ≤ x ∧ x ≤ 15
set_option maxRecDepth 20000 in
theorem tX9_seatTable {E : zE} {d : Nat} {σ : zM} {S : sS} {r : Nat} {q : Nat × (Nat → Int32)} {t : Nat → Nat} (hW : WF S) (hX : RX S σ) (hr : r < 6) (ho : sR S r = some q) (hT : TbOK S q.1 t) (ht : ∀ i, i < q.1 → q.2 i = nI (t i)) : Ret E mX9_seatTable (d + 4) [zr E 0, .int (nI r)] σ (qV fun τ => Fr fSt σ τ ∧ RX S τ ∧ RdT τ q.1 (sBw S 0) t ∧ ∀ i, i < q.1 → StK S τ (t i) (t ((i + 1) % q.1))) := by
  have h8 := hW.2.1.1
  have hb8 := bw_le hW (show 0 < 2 by omega)
  have hk := kd_r hr
  have hk1 := kd_r1 hr
  have n2 := hT.1.1
  have n8 := hT.1.2.1
  have hS : Sh σ (24 + 2 * r) 40 (some q) := by
    rw [← ho]
    exact hX.1 r hr
  have hbw : gi σ 44 1 = nI (sBw S 0) := (hX.2.2.1 0 (by decide)).1
  have hne : ¬ nI q.1 = 0 := fun z => by
    rw [nI_eq0 (by omega)] at z
    omega
  refine Ret.of [some (zr E 0), some (.int (nI r)), none] (by decide +kernel) (Nat.le_of_ble_eq_true rfl) rfl ?_
  have loop : ∀ i, i ≤ q.1 → ∀ τ, Fr fSt σ τ → RX S τ → RdT τ q.1 (sBw S 0) t → (∀ k, k < i → StK S τ (t k) (t ((k + 1) % q.1))) → At E mX9_seatTable (d + 4) (qV fun τ => Fr fSt σ τ ∧ RX S τ ∧ RdT τ q.1 (sBw S 0) t ∧ ∀ i, i < q.1 → StK S τ (t i) (t ((i + 1) % q.1))) 24 [some (zr E 0), some (.int (nI r)), some (.int (nI i))] [] τ := by
    refine z_up (fun i hi ih τ hF hR hD hd => ?_)
    by_cases hie : i = q.1
    · rw [hie] at hd
      refine z_iload_n 25 dX9_seatTable_24 rfl rfl ?_
      refine z_aload_n 26 dX9_seatTable_25 rfl rfl ?_
      refine gX9_60 29 rfl dX9_seatTable_26 rfl ?_
      refine gX9_269 32 rfl dX9_seatTable_29 rfl (by first | assumption | rfl) ?_
      rw [hD.1]
      refine z_icmp_ge 73 35 dX9_seatTable_32 (by decide) rfl (fun h32 => ?_) (fun h32 => ?_)
      · (try rw [nI_leI (by omega) (by omega)] at h32)
        refine z_rv dX9_seatTable_73 rfl ?_
        exact ⟨hF, hR, hD, hd⟩
      · (try rw [nI_leI (by omega) (by omega)] at h32)
        omega
    · have hil : i < q.1 := by omega
      have hml := Nat.mod_lt (i + 1) (show q.1 > 0 by omega)
      have t1 := (hT.2 i hil).1
      have t2 := (hT.2 ((i + 1) % q.1) hml).1
      refine z_iload_n 25 dX9_seatTable_24 rfl rfl ?_
      refine z_aload_n 26 dX9_seatTable_25 rfl rfl ?_
      refine gX9_60 29 rfl dX9_seatTable_26 rfl ?_
      refine gX9_269 32 rfl dX9_seatTable_29 rfl (by first | assumption | rfl) ?_
      rw [hD.1]
      refine z_icmp_ge 73 35 dX9_seatTable_32 (by decide) rfl (fun h32 => ?_) (fun h32 => ?_)
      · (try rw [nI_leI (by omega) (by omega)] at h32)
        omega
      · (try rw [nI_leI (by omega) (by omega)] at h32)
        refine z_aload_n 36 dX9_seatTable_35 rfl rfl ?_
        refine z_aload_n 37 dX9_seatTable_36 rfl rfl ?_
        refine gX9_60 40 rfl dX9_seatTable_37 rfl ?_
        refine gX9_424 43 rfl dX9_seatTable_40 rfl (by first | assumption | rfl) ?_
        refine z_iload_n 44 dX9_seatTable_43 rfl rfl ?_
        refine z_ialdn 45 dX9_seatTable_44 rfl (by first | assumption | rfl) (by omega) ?_
        rw [hD.2.2 i hil]
        refine z_aload_n 46 dX9_seatTable_45 rfl rfl ?_
        refine gX9_60 49 rfl dX9_seatTable_46 rfl ?_
        refine gX9_424 52 rfl dX9_seatTable_49 rfl (by first | assumption | rfl) ?_
        refine z_iload_n 53 dX9_seatTable_52 rfl rfl ?_
        refine z_iconst 54 (v := nI 1) dX9_seatTable_53 rfl rfl ?_
        refine z_iadd 55 dX9_seatTable_54 rfl ?_
        rw [nI_add]
        refine z_aload_n 56 dX9_seatTable_55 rfl rfl ?_
        refine gX9_60 59 rfl dX9_seatTable_56 rfl ?_
        refine gX9_269 62 rfl dX9_seatTable_59 rfl (by first | assumption | rfl) ?_
        rw [hD.1]
        refine z_irem 63 dX9_seatTable_62 rfl hne ?_
        rw [pk_rem (by omega) (by omega) (by omega)]
        refine z_ialdn 64 dX9_seatTable_63 rfl (by first | assumption | rfl) (by omega) ?_
        rw [hD.2.2 _ hml]
        refine z_cVV2 67 (tX9_learnStep hW hR t1 t2 hD.2.1) kX9_learnStep dX9_seatTable_64 rfl lX9_427 (by first | assumption | rfl) (Nat.le_of_ble_eq_true rfl) ?_
        rintro τ1 ⟨hF1, hX1, hS1⟩
        refine zs_iinc_2_3_1 70 rfl dX9_seatTable_67 rfl rfl ?_
        rw [nI_add]
        refine z_goto 24 dX9_seatTable_70 rfl ?_
        exact ih (i + 1) (by omega) (by omega) τ1 (hF.tr hF1 (fun _ _ h => h) (by intros; omega)) hX1 (hD.fr hF1 (by omega) (by omega) (by intros; omega)) (fun k hk => by
          by_cases hki : k = i
          · rw [hki]; exact hS1
          · exact (hd k (by omega)).keep hb8 hF1 hS1 (by omega) (by omega) (by have := (hT.2 k (by omega)).1; omega) (by have := (hT.2 _ (Nat.mod_lt (k + 1) (show q.1 > 0 by omega))).1; omega))
  refine z_aload_n 1 dX9_seatTable_0 rfl rfl ?_
  refine gX9_60 4 rfl dX9_seatTable_1 rfl ?_
  refine z_aload_n 5 dX9_seatTable_4 rfl rfl ?_
  refine gX9_11 8 rfl dX9_seatTable_5 rfl ?_
  refine z_iload_n 9 dX9_seatTable_8 rfl rfl ?_
  refine z_aald1 10 dX9_seatTable_9 rfl (by omega) ?_
  refine z_aload_n 11 dX9_seatTable_10 rfl rfl ?_
  refine gX9_20 14 rfl dX9_seatTable_11 rfl ?_
  refine z_iconst 15 (v := nI 0) dX9_seatTable_14 rfl rfl ?_
  refine z_aald3 16 dX9_seatTable_15 rfl (by omega) ?_
  refine gX9_156 19 rfl dX9_seatTable_16 rfl rfl ?_
  rw [show gi σ (44 + 2 * 0) 1 = nI (sBw S 0) from hbw]
  refine z_cVV2 22 (tX5_seat hk hk1 (by omega) hS n8 hb8 ht) kX5_seat dX9_seatTable_19 rfl lX9_420 (by first | assumption | rfl) (Nat.le_of_ble_eq_true rfl) ?_
  rintro τ1 ⟨hF1, hD1⟩
  refine z_iconst 23 (v := nI 0) dX9_seatTable_22 rfl rfl ?_
  refine zs_istore_n_2_3 24 rfl dX9_seatTable_23 rfl rfl ?_
  exact loop 0 (Nat.zero_le _) τ1 (hF1.mono (by intros; omega)) (hX.scr hW (hF1.mono (by unfold xS; intros; omega))) hD1 (fun k hk => absurd hk (Nat.not_lt_zero k))
set_option maxRecDepth 20000 in
theorem tX9_learnAllSteps {E : zE} {d : Nat} {σ : zM} {S : sS} {n : Nat} {t : Nat → Nat} (hW : WF S) (hX : RX S σ) (hT : TbOK S n t) (hD : RdT σ n (sBw S 0) t) : Ret E mX9_learnAllSteps (d + 4) [zr E 0] σ (qV fun τ => Fr fSt σ τ ∧ RX S τ ∧ RdT τ n (sBw S 0) t ∧ ∀ i, i < n → ∀ j, j < n → i ≠ j → StK S τ (t i) (t j)) := by
  have h8 := hW.2.1.1
  have hb8 := bw_le hW (show 0 < 2 by omega)
  have n2 := hT.1.1
  have n8 := hT.1.2.1
  refine Ret.of [some (zr E 0), none, none] (by decide +kernel) (Nat.le_of_ble_eq_true rfl) rfl ?_
  have outer : ∀ i, i ≤ n → ∀ y τ, Fr fSt σ τ → RX S τ → RdT τ n (sBw S 0) t → (∀ k, k < i → ∀ j, j < n → k ≠ j → StK S τ (t k) (t j)) → At E mX9_learnAllSteps (d + 4) (qV fun τ => Fr fSt σ τ ∧ RX S τ ∧ RdT τ n (sBw S 0) t ∧ ∀ i, i < n → ∀ j, j < n → i ≠ j → StK S τ (t i) (t j)) 2 [some (zr E 0), some (.int (nI i)), y] [] τ := by
    refine z_up (fun i hi oh y τ hF hR hD hd => ?_)
    by_cases hie : i = n
    · rw [hie] at hd
      refine z_iload_n 3 dX9_learnAllSteps_2 rfl rfl ?_
      refine z_aload_n 4 dX9_learnAllSteps_3 rfl rfl ?_
      refine gX9_60 7 rfl dX9_learnAllSteps_4 rfl ?_
      refine gX9_269 10 rfl dX9_learnAllSteps_7 rfl (by first | assumption | rfl) ?_
      rw [hD.1]
      refine z_icmp_ge 65 13 dX9_learnAllSteps_10 (by decide) rfl (fun h10 => ?_) (fun h10 => ?_)
      · (try rw [nI_leI (by omega) (by omega)] at h10)
        refine z_rv dX9_learnAllSteps_65 rfl ?_
        exact ⟨hF, hR, hD, hd⟩
      · (try rw [nI_leI (by omega) (by omega)] at h10)
        omega
    · have hil : i < n := by omega
      have inner : ∀ j, j ≤ n → ∀ τ, Fr fSt σ τ → RX S τ → RdT τ n (sBw S 0) t → (∀ k, k < i → ∀ j, j < n → k ≠ j → StK S τ (t k) (t j)) → (∀ k, k < j → i ≠ k → StK S τ (t i) (t k)) → At E mX9_learnAllSteps (d + 4) (qV fun τ => Fr fSt σ τ ∧ RX S τ ∧ RdT τ n (sBw S 0) t ∧ ∀ i, i < n → ∀ j, j < n → i ≠ j → StK S τ (t i) (t j)) 15 [some (zr E 0), some (.int (nI i)), some (.int (nI j))] [] τ := by
        refine z_up (fun j hj jh τ hF hR hD hd hd2 => ?_)
        by_cases hje : j = n
        · rw [hje] at hd2
          refine z_iload_n 16 dX9_learnAllSteps_15 rfl rfl ?_
          refine z_aload_n 17 dX9_learnAllSteps_16 rfl rfl ?_
          refine gX9_60 20 rfl dX9_learnAllSteps_17 rfl ?_
          refine gX9_269 23 rfl dX9_learnAllSteps_20 rfl (by first | assumption | rfl) ?_
          rw [hD.1]
          refine z_icmp_ge 59 26 dX9_learnAllSteps_23 (by decide) rfl (fun h23 => ?_) (fun h23 => ?_)
          · (try rw [nI_leI (by omega) (by omega)] at h23)
            refine zs_iinc_1_3_1 62 rfl dX9_learnAllSteps_59 rfl rfl ?_
            rw [nI_add]
            refine z_goto 2 dX9_learnAllSteps_62 rfl ?_
            exact oh (i + 1) (by omega) (by omega) _ τ hF hR hD (fun k hk a ha hka => by
              by_cases hki : k = i
              · rw [hki] at hka ⊢; exact hd2 a ha hka
              · exact hd k (by omega) a ha hka)
          · (try rw [nI_leI (by omega) (by omega)] at h23)
            omega
        · have hjl : j < n := by omega
          have t1 := (hT.2 i hil).1
          have t2 := (hT.2 j hjl).1
          refine z_iload_n 16 dX9_learnAllSteps_15 rfl rfl ?_
          refine z_aload_n 17 dX9_learnAllSteps_16 rfl rfl ?_
          refine gX9_60 20 rfl dX9_learnAllSteps_17 rfl ?_
          refine gX9_269 23 rfl dX9_learnAllSteps_20 rfl (by first | assumption | rfl) ?_
          rw [hD.1]
          refine z_icmp_ge 59 26 dX9_learnAllSteps_23 (by decide) rfl (fun h23 => ?_) (fun h23 => ?_)
          · (try rw [nI_leI (by omega) (by omega)] at h23)
            omega
          · (try rw [nI_leI (by omega) (by omega)] at h23)
            refine z_iload_n 27 dX9_learnAllSteps_26 rfl rfl ?_
            refine z_iload_n 28 dX9_learnAllSteps_27 rfl rfl ?_
            refine z_icmp_eq 53 31 dX9_learnAllSteps_28 (by decide) rfl (fun h28 => ?_) (fun h28 => ?_)
            · (try rw [nI_eq (by omega) (by omega)] at h28)
              refine zs_iinc_2_3_1 56 rfl dX9_learnAllSteps_53 rfl rfl ?_
              rw [nI_add]
              refine z_goto 15 dX9_learnAllSteps_56 rfl ?_
              first
                | exact jh (j + 1) (by omega) (by omega) τ1 (hF.tr hF1 (fun _ _ h => h) (by intros; omega)) hX1 (hD.fr hF1 (by omega) (by omega) (by intros; omega)) (fun k hk a ha hka => (hd k hk a ha hka).keep hb8 hF1 hS1 (by omega) (by omega) (by have := (hT.2 k (by omega)).1; omega) (by have := (hT.2 a ha).1; omega)) (fun k hk hik => by
                    by_cases hkj : k = j
                    · rw [hkj]; exact hS1
                    · exact (hd2 k (by omega) hik).keep hb8 hF1 hS1 (by omega) (by omega) (by omega) (by have := (hT.2 k (by omega)).1; omega))
                | exact jh (j + 1) (by omega) (by omega) τ hF hR hD hd (fun k hk hik => hd2 k (by omega) hik)
            · (try rw [nI_eq (by omega) (by omega)] at h28)
              refine z_aload_n 32 dX9_learnAllSteps_31 rfl rfl ?_
              refine z_aload_n 33 dX9_learnAllSteps_32 rfl rfl ?_
              refine gX9_60 36 rfl dX9_learnAllSteps_33 rfl ?_
              refine gX9_424 39 rfl dX9_learnAllSteps_36 rfl (by first | assumption | rfl) ?_
              refine z_iload_n 40 dX9_learnAllSteps_39 rfl rfl ?_
              refine z_ialdn 41 dX9_learnAllSteps_40 rfl (by first | assumption | rfl) (by omega) ?_
              rw [hD.2.2 i hil]
              refine z_aload_n 42 dX9_learnAllSteps_41 rfl rfl ?_
              refine gX9_60 45 rfl dX9_learnAllSteps_42 rfl ?_
              refine gX9_424 48 rfl dX9_learnAllSteps_45 rfl (by first | assumption | rfl) ?_
              refine z_iload_n 49 dX9_learnAllSteps_48 rfl rfl ?_
              refine z_ialdn 50 dX9_learnAllSteps_49 rfl (by first | assumption | rfl) (by omega) ?_
              rw [hD.2.2 j hjl]
              refine z_cVV2 53 (tX9_learnStep hW hR t1 t2 hD.2.1) kX9_learnStep dX9_learnAllSteps_50 rfl lX9_427 (by first | assumption | rfl) (Nat.le_of_ble_eq_true rfl) ?_
              rintro τ1 ⟨hF1, hX1, hS1⟩
              refine zs_iinc_2_3_1 56 rfl dX9_learnAllSteps_53 rfl rfl ?_
              rw [nI_add]
              refine z_goto 15 dX9_learnAllSteps_56 rfl ?_
              first
                | exact jh (j + 1) (by omega) (by omega) τ1 (hF.tr hF1 (fun _ _ h => h) (by intros; omega)) hX1 (hD.fr hF1 (by omega) (by omega) (by intros; omega)) (fun k hk a ha hka => (hd k hk a ha hka).keep hb8 hF1 hS1 (by omega) (by omega) (by have := (hT.2 k (by omega)).1; omega) (by have := (hT.2 a ha).1; omega)) (fun k hk hik => by
                    by_cases hkj : k = j
                    · rw [hkj]; exact hS1
                    · exact (hd2 k (by omega) hik).keep hb8 hF1 hS1 (by omega) (by omega) (by omega) (by have := (hT.2 k (by omega)).1; omega))
                | exact jh (j + 1) (by omega) (by omega) τ hF hR hD hd (fun k hk hik => hd2 k (by omega) hik)
      refine z_iload_n 3 dX9_learnAllSteps_2 rfl rfl ?_
      refine z_aload_n 4 dX9_learnAllSteps_3 rfl rfl ?_
      refine gX9_60 7 rfl dX9_learnAllSteps_4 rfl ?_
      refine gX9_269 10 rfl dX9_learnAllSteps_7 rfl (by first | assumption | rfl) ?_
      rw [hD.1]
      refine z_icmp_ge 65 13 dX9_learnAllSteps_10 (by decide) rfl (fun h10 => ?_) (fun h10 => ?_)
      · (try rw [nI_leI (by omega) (by omega)] at h10)
        omega
      · (try rw [nI_leI (by omega) (by omega)] at h10)
        refine z_iconst 14 (v := nI 0) dX9_learnAllSteps_13 rfl rfl ?_
        refine zs_istore_n_2_3 15 rfl dX9_learnAllSteps_14 rfl rfl ?_
        exact inner 0 (Nat.zero_le _) τ hF hR hD hd (fun k hk => absurd hk (Nat.not_lt_zero k))
  refine z_iconst 1 (v := nI 0) dX9_learnAllSteps_0 rfl rfl ?_
  refine zs_istore_n_1_3 2 rfl dX9_learnAllSteps_1 rfl rfl ?_
  exact outer 0 (Nat.zero_le _) none σ Fr.rf hX hD (fun k hk => absurd hk (Nat.not_lt_zero k))
