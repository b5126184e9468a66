/-! player -/
set_option maxRecDepth 20000 in
theorem tX4_become {E : zE} {d : Nat} {σ : zM} {a b : Nat} {k l m f : Nat} (hk : (kd a).1 = 4) : Ret E mX4_become d [zr E a, .int (nI k), .int (nI l), .int (nI m), .int (nI f), zr E b] σ (qV fun τ => Fr (fun x y => x = a) σ τ ∧ Py τ a (k, l, m, f) b) := by
  refine Ret.of [some (zr E a), some (.int (nI k)), some (.int (nI l)), some (.int (nI m)), some (.int (nI f)), some (zr E b)] (by decide +kernel) (Nat.le_of_ble_eq_true rfl) rfl ?_
  refine z_aload_n 1 dX4_become_0 rfl rfl ?_
  refine z_iload_n 2 dX4_become_1 rfl rfl ?_
  refine pX4_19 5 rfl dX4_become_2 rfl (by first | assumption | rfl) ?_
  refine z_aload_n 6 dX4_become_5 rfl rfl ?_
  refine z_iload_n 7 dX4_become_6 rfl rfl ?_
  refine pX4_23 10 rfl dX4_become_7 rfl (by first | assumption | rfl) ?_
  refine z_aload_n 11 dX4_become_10 rfl rfl ?_
  refine z_iload_n 12 dX4_become_11 rfl rfl ?_
  refine pX4_26 15 rfl dX4_become_12 rfl (by first | assumption | rfl) ?_
  refine z_aload_n 16 dX4_become_15 rfl rfl ?_
  refine z_iload 18 dX4_become_16 rfl rfl ?_
  refine pX4_29 21 rfl dX4_become_18 rfl (by first | assumption | rfl) ?_
  refine z_aload_n 22 dX4_become_21 rfl rfl ?_
  refine z_aload 24 dX4_become_22 rfl rfl ?_
  refine pX4_15 27 rfl dX4_become_24 rfl (by first | assumption | rfl) ?_
  refine z_rv dX4_become_27 rfl ?_
  refine ⟨((((Fr.si (P := fun x y => x = a) Fr.rf _ rfl).si _ rfl).si _ rfl).si _ rfl).sr _ rfl, ?_, ?_, ?_, ?_, ?_⟩
  · rw [gi_sr, gi_s2 _ _ (by omega), gi_s2 _ _ (by omega), gi_s2 _ _ (by omega), gi_s1]
  · rw [gi_sr, gi_s2 _ _ (by omega), gi_s2 _ _ (by omega), gi_s1]
  · rw [gi_sr, gi_s2 _ _ (by omega), gi_s1]
  · rw [gi_sr, gi_s1]
  · rw [gr_sr, if_pos ⟨rfl, rfl⟩]
set_option maxRecDepth 20000 in
theorem tX9_seatPlayer {E : zE} {d : Nat} {σ : zM} {n p bw k l m f : Nat} {u : Nat → Nat → Nat} (hn : gi σ 0 11 = nI n) (h8 : n ≤ 8) (hp : p < n) (hl : l < 2) (hk : k < 6) (h1 : 1 ≤ m) (h6 : m ≤ 6) (hB : Bx σ (44 + 2 * l) bw u) (hu : ∀ w p, p < 10 → uz bw u w p ≤ 9) : Ret E mX9_seatPlayer (d + 3) [zr E 0, .int (nI p), .int (nI k), .int (nI l), .int (nI m), .int (nI f)] σ (qV fun τ => Fr (fun x y => x = 48 + 2 * p ∨ x = 48 + 2 * p + 1 ∨ x = 8 ∨ x = 9) σ τ ∧ Py τ (48 + 2 * p) (k, l, m, f) (44 + 2 * l) ∧ ∀ w, w < 8 → gi τ (48 + 2 * p + 1) w = nI (bset (dList (uz bw u w) (dMost (k, l, m, f))))) := by
  have hc := kd_p (show p < 8 by omega)
  have hc1 := kd_p1 (show p < 8 by omega)
  have hb := kd_b hl
  have hb1 := kd_b1 hl
  obtain ⟨q, hq⟩ : ∃ q : sPly, q = (k, l, m, f) := ⟨_, rfl⟩
  have q1 : q.1 < 6 := by rw [hq]; exact hk
  have q3 : 1 ≤ q.2.2.1 := by rw [hq]; exact h1
  have q4 : q.2.2.1 ≤ 6 := by rw [hq]; exact h6
  rw [← hq]
  refine Ret.of [some (zr E 0), some (.int (nI p)), some (.int (nI k)), some (.int (nI l)), some (.int (nI m)), some (.int (nI f)), none] (by decide +kernel) (Nat.le_of_ble_eq_true rfl) rfl ?_
  have loop : ∀ w, w ≤ 8 → ∀ τ, Fr (fun x y => x = 48 + 2 * p ∨ x = 48 + 2 * p + 1 ∨ x = 8 ∨ x = 9) σ τ → Py τ (48 + 2 * p) q (44 + 2 * l) → (∀ v, v < w → gi τ (48 + 2 * p + 1) v = nI (bset (dList (uz bw u v) (dMost q)))) → At E mX9_seatPlayer (d + 3) (qV fun τ => Fr (fun x y => x = 48 + 2 * p ∨ x = 48 + 2 * p + 1 ∨ x = 8 ∨ x = 9) σ τ ∧ Py τ (48 + 2 * p) q (44 + 2 * l) ∧ ∀ w, w < 8 → gi τ (48 + 2 * p + 1) w = nI (bset (dList (uz bw u w) (dMost q)))) 40 [some (zr E 0), some (.int (nI p)), some (.int (nI k)), some (.int (nI l)), some (.int (nI m)), some (.int (nI f)), some (.int (nI w))] [] τ := by
    refine z_up (fun w hw ih τ hF hP hv => ?_)
    have hBT : Bx τ (44 + 2 * l) bw u := hB.fr hF (by intros; omega) (by intros; omega)
    have hlp : ∀ x ∈ dList (uz bw u w) (dMost q), x < 10 := fun x hx => dList_lt (hu w) hx
    have hl6 : (dList (uz bw u w) (dMost q)).length ≤ 6 := by
      have := dMost_le q3 q4
      unfold dList
      rw [List.length_take]
      omega
    refine z_iload 42 dX9_seatPlayer_40 rfl rfl ?_
    refine z_bipush 44 (v := nI 8) dX9_seatPlayer_42 rfl rfl ?_
    refine z_icmp_ge 87 47 dX9_seatPlayer_44 (by decide) rfl (fun h44 => ?_) (fun h44 => ?_)
    · (try rw [nI_leI (by omega) (by omega)] at h44)
      refine z_rv dX9_seatPlayer_87 rfl ?_
      exact ⟨hF, hP, fun v hv' => hv v (by omega)⟩
    · (try rw [nI_leI (by omega) (by omega)] at h44)
      refine z_aload_n 48 dX9_seatPlayer_47 rfl rfl ?_
      refine gX9_46 51 rfl dX9_seatPlayer_48 rfl ?_
      refine z_aload_n 52 dX9_seatPlayer_51 rfl rfl ?_
      refine gX9_26 55 rfl dX9_seatPlayer_52 rfl ?_
      refine z_iload_n 56 dX9_seatPlayer_55 rfl rfl ?_
      refine z_aald4 57 dX9_seatPlayer_56 rfl (by omega) ?_
      refine z_iload 59 dX9_seatPlayer_57 rfl rfl ?_
      refine z_cVV2 62 (tX2_drawBy (a := 8) (b := 44 + 2 * l) (bw := bw) (w := w) (u := u) (q := q) rfl rfl hc hb hb1 hP q1 q3 q4 hBT (hu w) (by omega)) kX2_drawBy dX9_seatPlayer_59 rfl lX9_185 (by first | assumption | rfl) (Nat.le_of_ble_eq_true rfl) ?_
      rintro τ1 ⟨hF1, hD1⟩
      refine z_aload_n 63 dX9_seatPlayer_62 rfl rfl ?_
      refine gX9_26 66 rfl dX9_seatPlayer_63 rfl ?_
      refine z_iload_n 67 dX9_seatPlayer_66 rfl rfl ?_
      refine z_aald4 68 dX9_seatPlayer_67 rfl (by omega) ?_
      refine gX9_412 71 rfl dX9_seatPlayer_68 rfl (by first | assumption | rfl) ?_
      refine z_iload 73 dX9_seatPlayer_71 rfl rfl ?_
      refine z_aload_n 74 dX9_seatPlayer_73 rfl rfl ?_
      refine gX9_46 77 rfl dX9_seatPlayer_74 rfl ?_
      refine z_cVI0 80 (tX2_set (a := 8) rfl rfl hD1 hl6 hlp) kX2_set dX9_seatPlayer_77 rfl lX9_415 (by first | assumption | rfl) (Nat.le_of_ble_eq_true rfl) ?_
      rintro _ _ ⟨e1, e2⟩
      replace e1 := e1.symm
      replace e2 := e2.symm
      subst e1
      subst e2
      refine z_iastn 81 dX9_seatPlayer_80 rfl (by first | assumption | rfl) (by omega) ?_
      refine zs_iinc_6_7_1 84 rfl dX9_seatPlayer_81 rfl rfl ?_
      rw [nI_add]
      refine z_goto 40 dX9_seatPlayer_84 rfl ?_
      refine ih (w + 1) (by omega) (by omega) _ ((hF.tr hF1 (fun _ _ h => h) (by intros; omega)).si _ (by omega)) ((hP.fr hF1 (by intros; omega)).fr (P := fun x y => x = 48 + 2 * p + 1) (Fr.rf.si _ rfl) (by intros; omega)) (fun v hv' => ?_)
      rw [gi_si]
      by_cases hvw : v = w
      · rw [if_pos ⟨rfl, hvw⟩, hvw]
      · rw [if_neg (fun z => hvw z.2), hF1.gi (by omega)]; exact hv v (by omega)
  refine z_aload_n 1 dX9_seatPlayer_0 rfl rfl ?_
  refine z_iload_n 2 dX9_seatPlayer_1 rfl rfl ?_
  refine z_cVI1 5 (tX9_isPlayer hn h8) kX9_isPlayer dX9_seatPlayer_2 rfl lX9_176 (by first | assumption | rfl) (Nat.le_of_ble_eq_true rfl) ?_
  rintro _ _ ⟨e1, e2⟩
  replace e1 := e1.symm
  replace e2 := e2.symm
  subst e1
  subst e2
  refine z_ifb_eq 15 8 dX9_seatPlayer_5 (by decide) rfl (fun h5 => ?_) (fun h5 => ?_)
  · exact absurd (inN_nI hp (by omega)) h5
  · refine z_iload_n 9 dX9_seatPlayer_8 rfl rfl ?_
    refine z_cSI1 12 (tX9_isLand) kX9_isLand dX9_seatPlayer_9 rfl lX9_143 (Nat.le_of_ble_eq_true rfl) ?_
    rintro _ _ ⟨e1, e2⟩
    replace e1 := e1.symm
    replace e2 := e2.symm
    subst e1
    subst e2
    refine z_ifb_ne 16 15 dX9_seatPlayer_12 (by decide) rfl (fun h12 => ?_) (fun h12 => ?_)
    · refine z_aload_n 17 dX9_seatPlayer_16 rfl rfl ?_
      refine gX9_26 20 rfl dX9_seatPlayer_17 rfl ?_
      refine z_iload_n 21 dX9_seatPlayer_20 rfl rfl ?_
      refine z_aald4 22 dX9_seatPlayer_21 rfl (by omega) ?_
      refine z_iload_n 23 dX9_seatPlayer_22 rfl rfl ?_
      refine z_iload_n 24 dX9_seatPlayer_23 rfl rfl ?_
      refine z_iload 26 dX9_seatPlayer_24 rfl rfl ?_
      refine z_iload 28 dX9_seatPlayer_26 rfl rfl ?_
      refine z_aload_n 29 dX9_seatPlayer_28 rfl rfl ?_
      refine gX9_20 32 rfl dX9_seatPlayer_29 rfl ?_
      refine z_iload_n 33 dX9_seatPlayer_32 rfl rfl ?_
      refine z_aald3 34 dX9_seatPlayer_33 rfl (by omega) ?_
      refine z_cVV5 37 (tX4_become hc) kX4_become dX9_seatPlayer_34 rfl lX9_408 (by first | assumption | rfl) (Nat.le_of_ble_eq_true rfl) ?_
      rintro τ1 ⟨hF1, hP1⟩
      rw [← hq] at hP1
      refine z_iconst 38 (v := nI 0) dX9_seatPlayer_37 rfl rfl ?_
      refine zs_istore_6_7 40 rfl dX9_seatPlayer_38 rfl rfl ?_
      exact loop 0 (by omega) τ1 (hF1.mono (by intros; omega)) hP1 (fun v hv => absurd hv (Nat.not_lt_zero v))
    · exact absurd (inN_nI hl (by omega)) h12
def spPlayer (S : sS) (k l m f : Int32) : Int32 × sS := if ¬ (inN k 6 ∧ inN l 2 ∧ (nI 1 ≤ m ∧ m ≤ nI 6)) ∨ ¬ inN f 8 then (-1, S) else if ¬ cnt S (zx l) then sFd S 1 else if ¬ inN f (sBw S 0) then (-1, S) else if 8 ≤ sPc S then (-2, S) else (nI (sPc S), setP S (sPc S + 1) (zu (sPl S) (sPc S) (zx k, zx l, zx m, zx f)))
theorem RX.P {S : sS} {σ τ : zM} {n : Nat} {f : Nat → sPly} (hW : WF S) (h : RX S σ) (hF : Fr (fun x y => x = 0 ∧ y = 11 ∨ 48 ≤ x ∧ x < 64 ∨ x = 8 ∨ x = 9) σ τ) (h1 : gi τ 0 11 = nI n) (h2 : ∀ p, p < n → Py τ (48 + 2 * p) (f p) (44 + 2 * (f p).2.1) ∧ ∀ w, w < 8 → gi τ (48 + 2 * p + 1) w = nI (bset (dList (us0 S.2.2.1 (f p).2.1 w) (dMost (f p))))) : RX (setP S n f) τ := by
  refine ⟨h.1.fr hF (by intros; omega), h.2.1.fr hF (by intros; omega), h.2.2.1.fr hF (by intros; omega), ⟨h1, fun p hp => ?_⟩, h.2.2.2.2.1.fr hW.2.2.1 hF (by intros; omega), h.2.2.2.2.2.fr hF (by intros; omega)⟩
  obtain ⟨⟨a1, a2, a3, a4, a5⟩, a6⟩ := h2 p hp
  exact ⟨a1, a2, a3, a4, a5, a6⟩
theorem RM.P {S : sS} {σ τ : zM} {n : Nat} {f : Nat → sPly} (hW : WF S) (h : RM S σ) (hF : Fr (fun x y => x = 102 ∧ y = 13 ∨ x = 111) σ τ) (h1 : gi τ 102 13 = nI n) (h2 : ∀ p, p < n → mPy τ p (f p)) : RM (setP S n f) τ :=
  ⟨h.1.fr hF (by intros; omega), h.2.1.fr hF (by intros; omega), h.2.2.1.fr (fun l hl => (hW.1 l hl).1) hF (by intros; omega), ⟨h1, h2⟩, h.2.2.2.2.1.fr hF (by intros; omega), h.2.2.2.2.2.fr hF (by intros; omega)⟩
set_option maxRecDepth 20000 in
theorem tX9_player {E : zE} {d : Nat} {σ : zM} {S : sS} {k l m f : Int32} (hW : WF S) (hX : RX S σ) : Ret E mX9_player (d + 4) [zr E 0, .int k, .int l, .int m, .int f] σ (qX σ (spPlayer S k l m f)) := by
  have h8 := hW.2.1.1
  have hpc : gi σ 0 11 = nI (sPc S) := hX.2.2.2.1.1
  by_cases hA : ¬ (inN k 6 ∧ inN l 2 ∧ (nI 1 ≤ m ∧ m ≤ nI 6)) ∨ ¬ inN f 8
  · by_cases hA0 : inN k 6 ∧ inN l 2 ∧ (nI 1 ≤ m ∧ m ≤ nI 6)
    · obtain ⟨g1, g2, g3, g4⟩ := hA0
      refine Ret.of [some (zr E 0), some (.int k), some (.int l), some (.int m), some (.int f), none] (by decide +kernel) (Nat.le_of_ble_eq_true rfl) rfl ?_
      refine z_iload_n 1 dX9_player_0 rfl rfl ?_
      refine z_if_lt 32 4 dX9_player_1 (by decide) rfl (fun h1 => ?_) (fun h1 => ?_)
      · (try rw [nI_lt0 (by omega)] at h1)
        exact absurd h1 g1.1
      · (try rw [nI_lt0 (by omega)] at h1)
        refine z_iload_n 5 dX9_player_4 rfl rfl ?_
        refine z_bipush 7 (v := nI 6) dX9_player_5 rfl rfl ?_
        refine z_icmp_ge 32 10 dX9_player_7 (by decide) rfl (fun h7 => ?_) (fun h7 => ?_)
        · (try rw [nI_leI (by omega) (by omega)] at h7)
          exact absurd g1 (inN_f2 (by decide) h7)
        · (try rw [nI_leI (by omega) (by omega)] at h7)
          refine z_iload_n 11 dX9_player_10 rfl rfl ?_
          refine z_cSI1 14 (tX9_isLand) kX9_isLand dX9_player_11 rfl lX9_143 (Nat.le_of_ble_eq_true rfl) ?_
          rintro _ _ ⟨e1, e2⟩
          replace e1 := e1.symm
          replace e2 := e2.symm
          subst e1
          subst e2
          refine z_ifb_eq 32 17 dX9_player_14 (by decide) rfl (fun h14 => ?_) (fun h14 => ?_)
          · exact absurd g2 h14
          · refine z_iload_n 18 dX9_player_17 rfl rfl ?_
            refine z_iconst 19 (v := nI 1) dX9_player_18 rfl rfl ?_
            refine z_icmp_lt 32 22 dX9_player_19 (by decide) rfl (fun h19 => ?_) (fun h19 => ?_)
            · exact absurd g3 (Int32.not_le.mpr h19)
            · refine z_iload_n 23 dX9_player_22 rfl rfl ?_
              refine z_bipush 25 (v := nI 6) dX9_player_23 rfl rfl ?_
              refine z_icmp_gt 32 28 dX9_player_25 (by decide) rfl (fun h25 => ?_) (fun h25 => ?_)
              · exact absurd g4 (Int32.not_le.mpr h25)
              · refine z_iconst 29 (v := nI 1) dX9_player_28 rfl rfl ?_
                refine z_goto 33 dX9_player_29 rfl ?_
                refine zs_istore_5_6 35 rfl dX9_player_33 rfl rfl ?_
                refine z_iload 37 dX9_player_35 rfl rfl ?_
                refine z_if_eq 48 40 dX9_player_37 (by decide) rfl (fun h37 => ?_) (fun h37 => ?_)
                · (try rw [nI_eq0 (by omega)] at h37)
                  exact absurd h37 (by decide)
                · (try rw [nI_eq0 (by omega)] at h37)
                  refine z_iload 42 dX9_player_40 rfl rfl ?_
                  refine z_cSI1 45 (tX9_isEverWord) kX9_isEverWord dX9_player_42 rfl lX9_159 (Nat.le_of_ble_eq_true rfl) ?_
                  rintro _ _ ⟨e1, e2⟩
                  replace e1 := e1.symm
                  replace e2 := e2.symm
                  subst e1
                  subst e2
                  refine z_ifb_ne 50 48 dX9_player_45 (by decide) rfl (fun h45 => ?_) (fun h45 => ?_)
                  · exact absurd hA (fun z => z.elim (fun q => q ⟨g1, g2, g3, g4⟩) (fun q => q h45))
                  · refine z_iconst 49 (v := (-1)) dX9_player_48 rfl rfl ?_
                    refine z_ri dX9_player_49 rfl ?_
                    exact qx0 (if_pos hA) hX Fr.rf
    · refine Ret.of [some (zr E 0), some (.int k), some (.int l), some (.int m), some (.int f), none] (by decide +kernel) (Nat.le_of_ble_eq_true rfl) rfl ?_
      refine z_iload_n 1 dX9_player_0 rfl rfl ?_
      refine z_if_lt 32 4 dX9_player_1 (by decide) rfl (fun h1 => ?_) (fun h1 => ?_)
      · (try rw [nI_lt0 (by omega)] at h1)
        refine z_iconst 33 (v := nI 0) dX9_player_32 rfl rfl ?_
        refine zs_istore_5_6 35 rfl dX9_player_33 rfl rfl ?_
        refine z_iload 37 dX9_player_35 rfl rfl ?_
        refine z_if_eq 48 40 dX9_player_37 (by decide) rfl (fun h37 => ?_) (fun h37 => ?_)
        · (try rw [nI_eq0 (by omega)] at h37)
          refine z_iconst 49 (v := (-1)) dX9_player_48 rfl rfl ?_
          refine z_ri dX9_player_49 rfl ?_
          exact qx0 (if_pos hA) hX Fr.rf
        · (try rw [nI_eq0 (by omega)] at h37)
          exact absurd rfl h37
      · (try rw [nI_lt0 (by omega)] at h1)
        refine z_iload_n 5 dX9_player_4 rfl rfl ?_
        refine z_bipush 7 (v := nI 6) dX9_player_5 rfl rfl ?_
        refine z_icmp_ge 32 10 dX9_player_7 (by decide) rfl (fun h7 => ?_) (fun h7 => ?_)
        · (try rw [nI_leI (by omega) (by omega)] at h7)
          refine z_iconst 33 (v := nI 0) dX9_player_32 rfl rfl ?_
          refine zs_istore_5_6 35 rfl dX9_player_33 rfl rfl ?_
          refine z_iload 37 dX9_player_35 rfl rfl ?_
          refine z_if_eq 48 40 dX9_player_37 (by decide) rfl (fun h37 => ?_) (fun h37 => ?_)
          · (try rw [nI_eq0 (by omega)] at h37)
            refine z_iconst 49 (v := (-1)) dX9_player_48 rfl rfl ?_
            refine z_ri dX9_player_49 rfl ?_
            exact qx0 (if_pos hA) hX Fr.rf
          · (try rw [nI_eq0 (by omega)] at h37)
            exact absurd rfl h37
        · (try rw [nI_leI (by omega) (by omega)] at h7)
          refine z_iload_n 11 dX9_player_10 rfl rfl ?_
          refine z_cSI1 14 (tX9_isLand) kX9_isLand dX9_player_11 rfl lX9_143 (Nat.le_of_ble_eq_true rfl) ?_
          rintro _ _ ⟨e1, e2⟩
          replace e1 := e1.symm
          replace e2 := e2.symm
          subst e1
          subst e2
          refine z_ifb_eq 32 17 dX9_player_14 (by decide) rfl (fun h14 => ?_) (fun h14 => ?_)
          · refine z_iconst 33 (v := nI 0) dX9_player_32 rfl rfl ?_
            refine zs_istore_5_6 35 rfl dX9_player_33 rfl rfl ?_
            refine z_iload 37 dX9_player_35 rfl rfl ?_
            refine z_if_eq 48 40 dX9_player_37 (by decide) rfl (fun h37 => ?_) (fun h37 => ?_)
            · (try rw [nI_eq0 (by omega)] at h37)
              refine z_iconst 49 (v := (-1)) dX9_player_48 rfl rfl ?_
              refine z_ri dX9_player_49 rfl ?_
              exact qx0 (if_pos hA) hX Fr.rf
            · (try rw [nI_eq0 (by omega)] at h37)
              exact absurd rfl h37
          · refine z_iload_n 18 dX9_player_17 rfl rfl ?_
            refine z_iconst 19 (v := nI 1) dX9_player_18 rfl rfl ?_
            refine z_icmp_lt 32 22 dX9_player_19 (by decide) rfl (fun h19 => ?_) (fun h19 => ?_)
            · refine z_iconst 33 (v := nI 0) dX9_player_32 rfl rfl ?_
              refine zs_istore_5_6 35 rfl dX9_player_33 rfl rfl ?_
              refine z_iload 37 dX9_player_35 rfl rfl ?_
              refine z_if_eq 48 40 dX9_player_37 (by decide) rfl (fun h37 => ?_) (fun h37 => ?_)
              · (try rw [nI_eq0 (by omega)] at h37)
                refine z_iconst 49 (v := (-1)) dX9_player_48 rfl rfl ?_
                refine z_ri dX9_player_49 rfl ?_
                exact qx0 (if_pos hA) hX Fr.rf
              · (try rw [nI_eq0 (by omega)] at h37)
                exact absurd rfl h37
            · refine z_iload_n 23 dX9_player_22 rfl rfl ?_
              refine z_bipush 25 (v := nI 6) dX9_player_23 rfl rfl ?_
              refine z_icmp_gt 32 28 dX9_player_25 (by decide) rfl (fun h25 => ?_) (fun h25 => ?_)
              · refine z_iconst 33 (v := nI 0) dX9_player_32 rfl rfl ?_
                refine zs_istore_5_6 35 rfl dX9_player_33 rfl rfl ?_
                refine z_iload 37 dX9_player_35 rfl rfl ?_
                refine z_if_eq 48 40 dX9_player_37 (by decide) rfl (fun h37 => ?_) (fun h37 => ?_)
                · (try rw [nI_eq0 (by omega)] at h37)
                  refine z_iconst 49 (v := (-1)) dX9_player_48 rfl rfl ?_
                  refine z_ri dX9_player_49 rfl ?_
                  exact qx0 (if_pos hA) hX Fr.rf
                · (try rw [nI_eq0 (by omega)] at h37)
                  exact absurd rfl h37
              · exact absurd ⟨inN_t (by decide) h1 h7, h14, Int32.not_lt.mp h19, Int32.not_lt.mp h25⟩ hA0
  have hA0 : inN k 6 ∧ inN l 2 ∧ (nI 1 ≤ m ∧ m ≤ nI 6) := Classical.byContradiction fun q => hA (Or.inl q)
  have hf : inN f 8 := Classical.byContradiction fun q => hA (Or.inr q)
  obtain ⟨hk, hl, hm1, hm2⟩ := hA0
  have e0 : spPlayer S k l m f = _ := if_neg hA
  have hk' := hk
  have hl' := hl
  have hf' := hf
  obtain ⟨k, hk2, rfl⟩ := inN_of hk
  obtain ⟨l, hl2, rfl⟩ := inN_of hl
  obtain ⟨f, hf2, rfl⟩ := inN_of hf
  obtain ⟨m, hm, rfl⟩ := nI_of (x := m) (Int32.not_lt.mpr (Int32.le_trans (nI_pos' (by decide)) hm1))
  rw [nI_leI (by decide) hm] at hm1
  rw [nI_leI hm (by decide)] at hm2
  rw [zx_nI (by omega), zx_nI (by omega), zx_nI (by omega), zx_nI (by omega)] at e0
  have hB := hX.bx hW hl2
  refine Ret.of [some (zr E 0), some (.int (nI k)), some (.int (nI l)), some (.int (nI m)), some (.int (nI f)), none] (by decide +kernel) (Nat.le_of_ble_eq_true rfl) rfl ?_
  refine z_iload_n 1 dX9_player_0 rfl rfl ?_
  refine z_if_lt 32 4 dX9_player_1 (by decide) rfl (fun h1 => ?_) (fun h1 => ?_)
  · exact absurd h1 (nI_pos (by omega))
  · refine z_iload_n 5 dX9_player_4 rfl rfl ?_
    refine z_bipush 7 (v := nI 6) dX9_player_5 rfl rfl ?_
    refine z_icmp_ge 32 10 dX9_player_7 (by decide) rfl (fun h7 => ?_) (fun h7 => ?_)
    · (try rw [nI_leI (by omega) (by omega)] at h7)
      omega
    · (try rw [nI_leI (by omega) (by omega)] at h7)
      refine z_iload_n 11 dX9_player_10 rfl rfl ?_
      refine z_cSI1 14 (tX9_isLand) kX9_isLand dX9_player_11 rfl lX9_143 (Nat.le_of_ble_eq_true rfl) ?_
      rintro _ _ ⟨e1, e2⟩
      replace e1 := e1.symm
      replace e2 := e2.symm
      subst e1
      subst e2
      refine z_ifb_eq 32 17 dX9_player_14 (by decide) rfl (fun h14 => ?_) (fun h14 => ?_)
      · exact absurd hl' h14
      · refine z_iload_n 18 dX9_player_17 rfl rfl ?_
        refine z_iconst 19 (v := nI 1) dX9_player_18 rfl rfl ?_
        refine z_icmp_lt 32 22 dX9_player_19 (by decide) rfl (fun h19 => ?_) (fun h19 => ?_)
        · (try rw [nI_ltI (by omega) (by omega)] at h19)
          omega
        · (try rw [nI_ltI (by omega) (by omega)] at h19)
          refine z_iload_n 23 dX9_player_22 rfl rfl ?_
          refine z_bipush 25 (v := nI 6) dX9_player_23 rfl rfl ?_
          refine z_icmp_gt 32 28 dX9_player_25 (by decide) rfl (fun h25 => ?_) (fun h25 => ?_)
          · (try rw [nI_ltI (by omega) (by omega)] at h25)
            omega
          · (try rw [nI_ltI (by omega) (by omega)] at h25)
            refine z_iconst 29 (v := nI 1) dX9_player_28 rfl rfl ?_
            refine z_goto 33 dX9_player_29 rfl ?_
            refine zs_istore_5_6 35 rfl dX9_player_33 rfl rfl ?_
            refine z_iload 37 dX9_player_35 rfl rfl ?_
            refine z_if_eq 48 40 dX9_player_37 (by decide) rfl (fun h37 => ?_) (fun h37 => ?_)
            · (try rw [nI_eq0 (by omega)] at h37)
              exact absurd h37 (by decide)
            · (try rw [nI_eq0 (by omega)] at h37)
              refine z_iload 42 dX9_player_40 rfl rfl ?_
              refine z_cSI1 45 (tX9_isEverWord) kX9_isEverWord dX9_player_42 rfl lX9_159 (Nat.le_of_ble_eq_true rfl) ?_
              rintro _ _ ⟨e1, e2⟩
              replace e1 := e1.symm
              replace e2 := e2.symm
              subst e1
              subst e2
              refine z_ifb_ne 50 48 dX9_player_45 (by decide) rfl (fun h45 => ?_) (fun h45 => ?_)
              · refine z_aload_n 51 dX9_player_50 rfl rfl ?_
                refine z_iload_n 52 dX9_player_51 rfl rfl ?_
                refine z_cVI1 55 (tX9_boxCounts (by assumption) (by assumption) (by omega)) kX9_boxCounts dX9_player_52 rfl lX9_162 (by first | assumption | rfl) (Nat.le_of_ble_eq_true rfl) ?_
                rintro _ _ ⟨e1, e2⟩
                replace e1 := e1.symm
                replace e2 := e2.symm
                subst e1
                subst e2
                refine z_ifb_ne 67 58 dX9_player_55 (by decide) rfl (fun h55 => ?_) (fun h55 => ?_)
                · refine z_aload_n 68 dX9_player_67 rfl rfl ?_
                  refine z_iload 70 dX9_player_68 rfl rfl ?_
                  refine z_cVI1 73 (tX9_isWord (by assumption) (by assumption)) kX9_isWord dX9_player_70 rfl lX9_165 (by first | assumption | rfl) (Nat.le_of_ble_eq_true rfl) ?_
                  rintro _ _ ⟨e1, e2⟩
                  replace e1 := e1.symm
                  replace e2 := e2.symm
                  subst e1
                  subst e2
                  refine z_ifb_ne 78 76 dX9_player_73 (by decide) rfl (fun h73 => ?_) (fun h73 => ?_)
                  · refine z_aload_n 79 dX9_player_78 rfl rfl ?_
                    refine gX9_150 82 rfl dX9_player_79 rfl ?_
                    rw [hpc]
                    refine z_bipush 84 (v := nI 8) dX9_player_82 rfl rfl ?_
                    refine z_icmp_lt 90 87 dX9_player_84 (by decide) rfl (fun h84 => ?_) (fun h84 => ?_)
                    · (try rw [nI_ltI (by omega) (by omega)] at h84)
                      refine z_aload_n 91 dX9_player_90 rfl rfl ?_
                      refine z_dup 92 dX9_player_91 rfl rfl ?_
                      refine gX9_150 95 rfl dX9_player_92 rfl ?_
                      rw [hpc]
                      refine z_iconst 96 (v := nI 1) dX9_player_95 rfl rfl ?_
                      refine z_iadd 97 dX9_player_96 rfl ?_
                      rw [nI_add]
                      refine pX9_150 100 rfl dX9_player_97 rfl ?_
                      refine z_aload_n 101 dX9_player_100 rfl rfl ?_
                      refine z_aload_n 102 dX9_player_101 rfl rfl ?_
                      refine gX9_150 105 rfl dX9_player_102 rfl ?_
                      rw [gi_s1]
                      refine z_iconst 106 (v := nI 1) dX9_player_105 rfl rfl ?_
                      refine z_isub 107 dX9_player_106 rfl ?_
                      rw [show nI (sPc S + 1) - nI 1 = nI (sPc S) from nI_pred _]
                      refine z_iload_n 108 dX9_player_107 rfl rfl ?_
                      refine z_iload_n 109 dX9_player_108 rfl rfl ?_
                      refine z_iload_n 110 dX9_player_109 rfl rfl ?_
                      refine z_iload 112 dX9_player_110 rfl rfl ?_
                      refine z_cVV5 115 (tX9_seatPlayer (n := sPc S + 1) (bw := sBw S l) (u := sUs S l) (gi_s1 _ _ _ _) (by omega) (by omega) hl2 hk2 hm1 hm2 (hB.fr (P := fun x y => x = 0) (Fr.rf.si _ rfl) (by intros; omega) (by intros; omega)) (fun w p hp => uz_le hW hl2 w p hp)) kX9_seatPlayer dX9_player_112 rfl lX9_172 (by first | assumption | rfl) (Nat.le_of_ble_eq_true rfl) ?_
                      rintro τ1 ⟨hF1, hP1, hv1⟩
                      refine z_aload_n 116 dX9_player_115 rfl rfl ?_
                      refine gX9_150 119 rfl dX9_player_116 rfl ?_
                      rw [hF1.gi (by omega), gi_s1]
                      refine z_iconst 120 (v := nI 1) dX9_player_119 rfl rfl ?_
                      refine z_isub 121 dX9_player_120 rfl ?_
                      rw [show nI (sPc S + 1) - nI 1 = nI (sPc S) from nI_pred _]
                      refine z_ri dX9_player_121 rfl ?_
                      have hFF : Fr (fun x y => x = 0 ∧ y = 11 ∨ x = 48 + 2 * sPc S ∨ x = 48 + 2 * sPc S + 1 ∨ x = 8 ∨ x = 9) σ τ1 := (Fr.si (P := fun x y => x = 0 ∧ y = 11 ∨ x = 48 + 2 * sPc S ∨ x = 48 + 2 * sPc S + 1 ∨ x = 8 ∨ x = 9) Fr.rf _ (by omega)).tr hF1 (fun _ _ h => h) (by intros; omega)
                      refine qx0 (e0.trans ((if_neg (fun z => z h55)).trans ((if_neg (fun z => z h73)).trans (if_neg (by omega))))) (hX.P hW (hFF.mono (by intros; omega)) ((hF1.gi (by omega)).trans (gi_s1 _ _ _ _)) (fun p hp => ?_)) (hFF.mono (by intros; omega))
                      unfold zu
                      by_cases hpp : p = sPc S
                      · subst hpp; rw [if_pos rfl]; exact ⟨hP1, hv1⟩
                      · rw [if_neg hpp]
                        have hp' : p < sPc S := by omega
                        exact ⟨(hX.py hp').fr hFF (by intros; omega), fun w hw => (hFF.gi (by omega)).trans (hX.ds hp' hw)⟩
                    · (try rw [nI_ltI (by omega) (by omega)] at h84)
                      refine z_bipush 89 (v := (-2)) dX9_player_87 rfl rfl ?_
                      refine z_ri dX9_player_89 rfl ?_
                      exact qx0 (e0.trans ((if_neg (fun z => z h55)).trans ((if_neg (fun z => z h73)).trans (if_pos (by omega))))) hX Fr.rf
                  · refine z_iconst 77 (v := (-1)) dX9_player_76 rfl rfl ?_
                    refine z_ri dX9_player_77 rfl ?_
                    exact qx0 (e0.trans ((if_neg (fun z => z h55)).trans (if_pos h73))) hX Fr.rf
                · refine z_aload_n 59 dX9_player_58 rfl rfl ?_
                  refine gX9_39 62 rfl dX9_player_59 rfl ?_
                  refine z_iconst 63 (v := nI 1) dX9_player_62 rfl rfl ?_
                  refine z_cVI1 66 (tX0_found (by omega) (by omega)) kX0_found dX9_player_63 rfl lX9_87 (by first | assumption | rfl) (Nat.le_of_ble_eq_true rfl) ?_
                  rintro _ _ ⟨e1, e2⟩
                  replace e1 := e1.symm
                  replace e2 := e2.symm
                  subst e1
                  subst e2
                  refine z_ri dX9_player_66 rfl ?_
                  exact qxf hW (e0.trans (if_pos h55)) (by decide) hX Fr.rf
              · exact absurd hf' h45
theorem WF_player {S : sS} (hW : WF S) (k l m f : Int32) : WF (spPlayer S k l m f).2 := by
  unfold spPlayer
  split
  · exact hW
  · rename_i hA
    split
    · exact hW
    · rename_i hc
      split
      · exact hW
      · rename_i hf
        split
        · exact hW
        · rename_i h8
          have hA0 : inN k 6 ∧ inN l 2 ∧ (nI 1 ≤ m ∧ m ≤ nI 6) := Classical.byContradiction fun q => hA (Or.inl q)
          obtain ⟨hk, hl, hm1, hm2⟩ := hA0
          have hf := Classical.not_not.mp hf
          have hc := Classical.not_not.mp hc
          obtain ⟨m, hm, rfl⟩ := nI_of (x := m) (Int32.not_lt.mpr (Int32.le_trans (nI_pos' (by decide)) hm1))
          rw [nI_leI (by decide) hm] at hm1
          rw [nI_leI hm (by decide)] at hm2
          refine ⟨hW.1, ⟨by show sPc S + 1 ≤ 8; omega, fun p hp => ?_⟩, ⟨hW.2.2.1, fun e he => ?_⟩⟩
          · have hp : p < sPc S + 1 := hp
            show (zu (sPl S) (sPc S) _ p).1 < 6 ∧ (zu (sPl S) (sPc S) _ p).2.1 < 2 ∧ 1 ≤ (zu (sPl S) (sPc S) _ p).2.2.1 ∧ (zu (sPl S) (sPc S) _ p).2.2.1 ≤ 6 ∧ (zu (sPl S) (sPc S) _ p).2.2.2 < sBw S 0 ∧ sBw S (zu (sPl S) (sPc S) _ p).2.1 = sBw S 0
            unfold zu
            by_cases hpp : p = sPc S
            · rw [if_pos hpp]
              exact ⟨hk.2, hl.2, by show 1 ≤ zx (nI m); rw [zx_nI hm]; exact hm1, by show zx (nI m) ≤ 6; rw [zx_nI hm]; exact hm2, hf.2, hc.2⟩
            · rw [if_neg hpp]
              exact hW.2.1.2 p (by omega)
          · obtain ⟨b1, b2, b3, b4, b5, b6⟩ := hW.2.2.2 e he
            have b1 : (sLf S e).2.1 < sPc S := b1
            exact ⟨by show (sLf S e).2.1 < sPc S + 1; omega, b2, b3, b4, b5, fun q hq => by have : q < sPc S := b6 q hq; show q < sPc S + 1; omega⟩
def mSt (σ : zM) (p k l m f : Nat) : zM := si (si (si (si σ 111 (4 * p) (nI k)) 111 (4 * p + 1) (nI l)) 111 (4 * p + 2) (nI m)) 111 (4 * p + 3) (nI f)
set_option maxRecDepth 20000 in
theorem tX10_setPlayer {E : zE} {d : Nat} {σ : zM} {p k l m f : Nat} (hp : p < 9) : Ret E mX10_setPlayer d [zr E 102, .int (nI p), .int (nI k), .int (nI l), .int (nI m), .int (nI f)] σ (qV fun τ => τ = mSt σ p k l m f) := by
  refine Ret.of [some (zr E 102), some (.int (nI p)), some (.int (nI k)), some (.int (nI l)), some (.int (nI m)), some (.int (nI f))] (by decide +kernel) (Nat.le_of_ble_eq_true rfl) rfl ?_
  refine z_aload_n 1 dX10_setPlayer_0 rfl rfl ?_
  refine gX10_38 4 rfl dX10_setPlayer_1 rfl ?_
  refine z_iconst 5 (v := nI 4) dX10_setPlayer_4 rfl rfl ?_
  refine z_iload_n 6 dX10_setPlayer_5 rfl rfl ?_
  refine z_imul 7 dX10_setPlayer_6 rfl ?_
  refine z_iload_n 8 dX10_setPlayer_7 rfl rfl ?_
  rw [nI_mul]
  refine z_iastn 9 dX10_setPlayer_8 rfl (by first | assumption | rfl) (by omega) ?_
  refine z_aload_n 10 dX10_setPlayer_9 rfl rfl ?_
  refine gX10_38 13 rfl dX10_setPlayer_10 rfl ?_
  refine z_iconst 14 (v := nI 4) dX10_setPlayer_13 rfl rfl ?_
  refine z_iload_n 15 dX10_setPlayer_14 rfl rfl ?_
  refine z_imul 16 dX10_setPlayer_15 rfl ?_
  refine z_iconst 17 (v := nI 1) dX10_setPlayer_16 rfl rfl ?_
  refine z_iadd 18 dX10_setPlayer_17 rfl ?_
  refine z_iload_n 19 dX10_setPlayer_18 rfl rfl ?_
  rw [nI_mul, nI_add]
  refine z_iastn 20 dX10_setPlayer_19 rfl (by first | assumption | rfl) (by omega) ?_
  refine z_aload_n 21 dX10_setPlayer_20 rfl rfl ?_
  refine gX10_38 24 rfl dX10_setPlayer_21 rfl ?_
  refine z_iconst 25 (v := nI 4) dX10_setPlayer_24 rfl rfl ?_
  refine z_iload_n 26 dX10_setPlayer_25 rfl rfl ?_
  refine z_imul 27 dX10_setPlayer_26 rfl ?_
  refine z_iconst 28 (v := nI 2) dX10_setPlayer_27 rfl rfl ?_
  refine z_iadd 29 dX10_setPlayer_28 rfl ?_
  refine z_iload 31 dX10_setPlayer_29 rfl rfl ?_
  rw [nI_mul, nI_add]
  refine z_iastn 32 dX10_setPlayer_31 rfl (by first | assumption | rfl) (by omega) ?_
  refine z_aload_n 33 dX10_setPlayer_32 rfl rfl ?_
  refine gX10_38 36 rfl dX10_setPlayer_33 rfl ?_
  refine z_iconst 37 (v := nI 4) dX10_setPlayer_36 rfl rfl ?_
  refine z_iload_n 38 dX10_setPlayer_37 rfl rfl ?_
  refine z_imul 39 dX10_setPlayer_38 rfl ?_
  refine z_iconst 40 (v := nI 3) dX10_setPlayer_39 rfl rfl ?_
  refine z_iadd 41 dX10_setPlayer_40 rfl ?_
  refine z_iload 43 dX10_setPlayer_41 rfl rfl ?_
  rw [nI_mul, nI_add]
  refine z_iastn 44 dX10_setPlayer_43 rfl (by first | assumption | rfl) (by omega) ?_
  refine z_rv dX10_setPlayer_44 rfl ?_
  rfl
theorem mSt_py (σ : zM) (p k l m f : Nat) : mPy (mSt σ p k l m f) p (k, l, m, f) := by
  unfold mSt
  refine ⟨?_, ?_, ?_, ?_⟩
  · rw [gi_s2 _ _ (by omega), gi_s2 _ _ (by omega), gi_s2 _ _ (by omega), Nat.add_zero, gi_s1]
  · rw [gi_s2 _ _ (by omega), gi_s2 _ _ (by omega), gi_s1]
  · rw [gi_s2 _ _ (by omega), gi_s1]
  · rw [gi_s1]
theorem mSt_fr (σ : zM) (p k l m f : Nat) : Fr (fun x y => x = 111 ∧ 4 * p ≤ y ∧ y < 4 * p + 4) σ (mSt σ p k l m f) := (((Fr.rf.si _ (by omega)).si _ (by omega)).si _ (by omega)).si _ (by omega)
set_option maxRecDepth 20000 in
theorem tX10_player {E : zE} {d : Nat} {σ : zM} {S : sS} {k l m f : Int32} (hW : WF S) (hX : RM S σ) : Ret E mX10_player (d + 2) [zr E 102, .int k, .int l, .int m, .int f] σ (qM σ (spPlayer S k l m f)) := by
  have h8 := hW.2.1.1
  have hpc : gi σ 102 13 = nI (sPc S) := hX.2.2.2.1.1
  by_cases hA : ¬ (inN k 6 ∧ inN l 2 ∧ (nI 1 ≤ m ∧ m ≤ nI 6)) ∨ ¬ inN f 8
  · refine Ret.of [some (zr E 102), some (.int k), some (.int l), some (.int m), some (.int f)] (by decide +kernel) (Nat.le_of_ble_eq_true rfl) rfl ?_
    refine z_iload_n 1 dX10_player_0 rfl rfl ?_
    refine z_iconst 2 (v := nI 0) dX10_player_1 rfl rfl ?_
    refine z_iconst 3 (v := nI 5) dX10_player_2 rfl rfl ?_
    refine z_cSI3 6 (tX10_in) kX10_in dX10_player_3 rfl lX10_91 (Nat.le_of_ble_eq_true rfl) ?_
    rintro _ _ ⟨e1, e2⟩
    replace e1 := e1.symm
    replace e2 := e2.symm
    subst e1
    subst e2
    rw [in_k (by decide)]
    refine z_ifb_eq 39 9 dX10_player_6 (by decide) rfl (fun h6 => ?_) (fun h6 => ?_)
    · refine z_iconst 40 (v := (-1)) dX10_player_39 rfl rfl ?_
      refine z_ri dX10_player_40 rfl ?_
      exact qm0 (if_pos hA) hX Fr.rf
    · refine z_iload_n 10 dX10_player_9 rfl rfl ?_
      refine z_iconst 11 (v := nI 0) dX10_player_10 rfl rfl ?_
      refine z_iconst 12 (v := nI 1) dX10_player_11 rfl rfl ?_
      refine z_cSI3 15 (tX10_in) kX10_in dX10_player_12 rfl lX10_91 (Nat.le_of_ble_eq_true rfl) ?_
      rintro _ _ ⟨e1, e2⟩
      replace e1 := e1.symm
      replace e2 := e2.symm
      subst e1
      subst e2
      rw [in_k (by decide)]
      refine z_ifb_eq 39 18 dX10_player_15 (by decide) rfl (fun h15 => ?_) (fun h15 => ?_)
      · refine z_iconst 40 (v := (-1)) dX10_player_39 rfl rfl ?_
        refine z_ri dX10_player_40 rfl ?_
        exact qm0 (if_pos hA) hX Fr.rf
      · refine z_iload_n 19 dX10_player_18 rfl rfl ?_
        refine z_iconst 20 (v := nI 1) dX10_player_19 rfl rfl ?_
        refine z_bipush 22 (v := nI 6) dX10_player_20 rfl rfl ?_
        refine z_cSI3 25 (tX10_in) kX10_in dX10_player_22 rfl lX10_91 (Nat.le_of_ble_eq_true rfl) ?_
        rintro _ _ ⟨e1, e2⟩
        replace e1 := e1.symm
        replace e2 := e2.symm
        subst e1
        subst e2
        refine z_ifb_eq 39 28 dX10_player_25 (by decide) rfl (fun h25 => ?_) (fun h25 => ?_)
        · refine z_iconst 40 (v := (-1)) dX10_player_39 rfl rfl ?_
          refine z_ri dX10_player_40 rfl ?_
          exact qm0 (if_pos hA) hX Fr.rf
        · refine z_iload 30 dX10_player_28 rfl rfl ?_
          refine z_iconst 31 (v := nI 0) dX10_player_30 rfl rfl ?_
          refine z_bipush 33 (v := nI 7) dX10_player_31 rfl rfl ?_
          refine z_cSI3 36 (tX10_in) kX10_in dX10_player_33 rfl lX10_91 (Nat.le_of_ble_eq_true rfl) ?_
          rintro _ _ ⟨e1, e2⟩
          replace e1 := e1.symm
          replace e2 := e2.symm
          subst e1
          subst e2
          rw [in_k (by decide)]
          refine z_ifb_ne 41 39 dX10_player_36 (by decide) rfl (fun h36 => ?_) (fun h36 => ?_)
          · exact absurd hA (fun z => z.elim (fun q => q ⟨h6, h15, h25⟩) (fun q => q h36))
          · refine z_iconst 40 (v := (-1)) dX10_player_39 rfl rfl ?_
            refine z_ri dX10_player_40 rfl ?_
            exact qm0 (if_pos hA) hX Fr.rf
  have hA0 : inN k 6 ∧ inN l 2 ∧ (nI 1 ≤ m ∧ m ≤ nI 6) := Classical.byContradiction fun q => hA (Or.inl q)
  have hf : inN f 8 := Classical.byContradiction fun q => hA (Or.inr q)
  obtain ⟨hk, hl, hm⟩ := hA0
  have e0 : spPlayer S k l m f = _ := if_neg hA
  have hk' := hk
  have hl' := hl
  have hf' := hf
  have hm' := hm
  obtain ⟨hm1, hm2⟩ := hm
  obtain ⟨k, hk, rfl⟩ := inN_of hk
  obtain ⟨l, hl, rfl⟩ := inN_of hl
  obtain ⟨f, hf, rfl⟩ := inN_of hf
  obtain ⟨m, hm, rfl⟩ := nI_of (x := m) (Int32.not_lt.mpr (Int32.le_trans (nI_pos' (by decide)) hm1))
  rw [nI_leI (by decide) hm] at hm1
  rw [nI_leI hm (by decide)] at hm2
  rw [zx_nI (by omega), zx_nI (by omega), zx_nI (by omega), zx_nI (by omega)] at e0
  refine Ret.of [some (zr E 102), some (.int (nI k)), some (.int (nI l)), some (.int (nI m)), some (.int (nI f))] (by decide +kernel) (Nat.le_of_ble_eq_true rfl) rfl ?_
  refine z_iload_n 1 dX10_player_0 rfl rfl ?_
  refine z_iconst 2 (v := nI 0) dX10_player_1 rfl rfl ?_
  refine z_iconst 3 (v := nI 5) dX10_player_2 rfl rfl ?_
  refine z_cSI3 6 (tX10_in) kX10_in dX10_player_3 rfl lX10_91 (Nat.le_of_ble_eq_true rfl) ?_
  rintro _ _ ⟨e1, e2⟩
  replace e1 := e1.symm
  replace e2 := e2.symm
  subst e1
  subst e2
  rw [in_k (by decide)]
  refine z_ifb_eq 39 9 dX10_player_6 (by decide) rfl (fun h6 => ?_) (fun h6 => ?_)
  · exact absurd hk' h6
  · refine z_iload_n 10 dX10_player_9 rfl rfl ?_
    refine z_iconst 11 (v := nI 0) dX10_player_10 rfl rfl ?_
    refine z_iconst 12 (v := nI 1) dX10_player_11 rfl rfl ?_
    refine z_cSI3 15 (tX10_in) kX10_in dX10_player_12 rfl lX10_91 (Nat.le_of_ble_eq_true rfl) ?_
    rintro _ _ ⟨e1, e2⟩
    replace e1 := e1.symm
    replace e2 := e2.symm
    subst e1
    subst e2
    rw [in_k (by decide)]
    refine z_ifb_eq 39 18 dX10_player_15 (by decide) rfl (fun h15 => ?_) (fun h15 => ?_)
    · exact absurd hl' h15
    · refine z_iload_n 19 dX10_player_18 rfl rfl ?_
      refine z_iconst 20 (v := nI 1) dX10_player_19 rfl rfl ?_
      refine z_bipush 22 (v := nI 6) dX10_player_20 rfl rfl ?_
      refine z_cSI3 25 (tX10_in) kX10_in dX10_player_22 rfl lX10_91 (Nat.le_of_ble_eq_true rfl) ?_
      rintro _ _ ⟨e1, e2⟩
      replace e1 := e1.symm
      replace e2 := e2.symm
      subst e1
      subst e2
      refine z_ifb_eq 39 28 dX10_player_25 (by decide) rfl (fun h25 => ?_) (fun h25 => ?_)
      · exact absurd hm' h25
      · refine z_iload 30 dX10_player_28 rfl rfl ?_
        refine z_iconst 31 (v := nI 0) dX10_player_30 rfl rfl ?_
        refine z_bipush 33 (v := nI 7) dX10_player_31 rfl rfl ?_
        refine z_cSI3 36 (tX10_in) kX10_in dX10_player_33 rfl lX10_91 (Nat.le_of_ble_eq_true rfl) ?_
        rintro _ _ ⟨e1, e2⟩
        replace e1 := e1.symm
        replace e2 := e2.symm
        subst e1
        subst e2
        rw [in_k (by decide)]
        refine z_ifb_ne 41 39 dX10_player_36 (by decide) rfl (fun h36 => ?_) (fun h36 => ?_)
        · refine z_aload_n 42 dX10_player_41 rfl rfl ?_
          refine z_iload_n 43 dX10_player_42 rfl rfl ?_
          refine z_cVI1 46 (tX10_isLand (by assumption) (by assumption) (by omega)) kX10_isLand dX10_player_43 rfl lX10_148 (by first | assumption | rfl) (Nat.le_of_ble_eq_true rfl) ?_
          rintro _ _ ⟨e1, e2⟩
          replace e1 := e1.symm
          replace e2 := e2.symm
          subst e1
          subst e2
          refine z_ifb_ne 55 49 dX10_player_46 (by decide) rfl (fun h46 => ?_) (fun h46 => ?_)
          · refine z_aload_n 56 dX10_player_55 rfl rfl ?_
            refine z_iload 58 dX10_player_56 rfl rfl ?_
            refine z_cVI1 61 (tX10_isWord (by assumption) (by assumption)) kX10_isWord dX10_player_58 rfl lX10_151 (by first | assumption | rfl) (Nat.le_of_ble_eq_true rfl) ?_
            rintro _ _ ⟨e1, e2⟩
            replace e1 := e1.symm
            replace e2 := e2.symm
            subst e1
            subst e2
            refine z_ifb_ne 66 64 dX10_player_61 (by decide) rfl (fun h61 => ?_) (fun h61 => ?_)
            · refine z_aload_n 67 dX10_player_66 rfl rfl ?_
              refine gX10_138 70 rfl dX10_player_67 rfl ?_
              rw [hpc]
              refine z_bipush 72 (v := nI 8) dX10_player_70 rfl rfl ?_
              refine z_icmp_ne 78 75 dX10_player_72 (by decide) rfl (fun h72 => ?_) (fun h72 => ?_)
              · (try rw [nI_eq (by omega) (by omega)] at h72)
                refine z_aload_n 79 dX10_player_78 rfl rfl ?_
                refine z_aload_n 80 dX10_player_79 rfl rfl ?_
                refine gX10_138 83 rfl dX10_player_80 rfl ?_
                rw [hpc]
                refine z_iload_n 84 dX10_player_83 rfl rfl ?_
                refine z_iload_n 85 dX10_player_84 rfl rfl ?_
                refine z_iload_n 86 dX10_player_85 rfl rfl ?_
                refine z_iload 88 dX10_player_86 rfl rfl ?_
                refine z_cVV5 91 (tX10_setPlayer (by omega)) kX10_setPlayer dX10_player_88 rfl lX10_158 (by first | assumption | rfl) (Nat.le_of_ble_eq_true rfl) ?_
                rintro _ e2
                replace e2 := e2.symm
                subst e2
                refine z_aload_n 92 dX10_player_91 rfl rfl ?_
                refine z_dup 93 dX10_player_92 rfl rfl ?_
                refine gX10_138 96 rfl dX10_player_93 rfl ?_
                rw [(mSt_fr σ _ _ _ _ _).gi (by omega), hpc]
                refine z_iconst 97 (v := nI 1) dX10_player_96 rfl rfl ?_
                refine z_iadd 98 dX10_player_97 rfl ?_
                rw [nI_add]
                refine pX10_138 101 rfl dX10_player_98 rfl ?_
                refine z_aload_n 102 dX10_player_101 rfl rfl ?_
                refine gX10_138 105 rfl dX10_player_102 rfl ?_
                rw [gi_s1]
                refine z_iconst 106 (v := nI 1) dX10_player_105 rfl rfl ?_
                refine z_isub 107 dX10_player_106 rfl ?_
                rw [show nI (sPc S + 1) - nI 1 = nI (sPc S) from nI_pred _]
                refine z_ri dX10_player_107 rfl ?_
                have hFF : Fr (fun x y => x = 102 ∧ y = 13 ∨ x = 111 ∧ 4 * sPc S ≤ y) σ (si (mSt σ (sPc S) k l m f) 102 13 (nI (sPc S + 1))) := ((mSt_fr σ (sPc S) k l m f).mono (by intros; omega)).si _ (by omega)
                refine qm0 (e0.trans ((if_neg (fun z => z h46)).trans ((if_neg (fun z => z h61)).trans (if_neg (by omega))))) (hX.P hW (hFF.mono (by intros; omega)) (gi_s1 _ _ _ _) (fun p hp => ?_)) (hFF.mono (by intros; omega))
                unfold zu
                by_cases hpp : p = sPc S
                · subst hpp; rw [if_pos rfl]; exact (mSt_py σ _ k l m f).fr (P := fun x y => x = 102) (Fr.rf.si _ rfl) (by intros; omega)
                · rw [if_neg hpp]; exact (hX.py (by omega)).fr hFF (by intros; omega)
              · (try rw [nI_eq (by omega) (by omega)] at h72)
                refine z_bipush 77 (v := (-2)) dX10_player_75 rfl rfl ?_
                refine z_ri dX10_player_77 rfl ?_
                exact qm0 (e0.trans ((if_neg (fun z => z h46)).trans ((if_neg (fun z => z h61)).trans (if_pos (by omega))))) hX Fr.rf
            · refine z_iconst 65 (v := (-1)) dX10_player_64 rfl rfl ?_
              refine z_ri dX10_player_65 rfl ?_
              exact qm0 (e0.trans ((if_neg (fun z => z h46)).trans (if_pos h61))) hX Fr.rf
          · refine z_aload_n 50 dX10_player_49 rfl rfl ?_
            refine z_iconst 51 (v := nI 1) dX10_player_50 rfl rfl ?_
            refine z_cVI1 54 (tX10_meets (by omega)) kX10_meets dX10_player_51 rfl lX10_99 (by first | assumption | rfl) (Nat.le_of_ble_eq_true rfl) ?_
            rintro _ _ ⟨e1, e2⟩
            replace e1 := e1.symm
            replace e2 := e2.symm
            subst e1
            subst e2
            refine z_ri dX10_player_54 rfl ?_
            exact qmf hW (e0.trans (if_pos h46)) (by decide) hX Fr.rf
        · exact absurd hf' h36
