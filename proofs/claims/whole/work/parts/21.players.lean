/-! words, lands, players -/
abbrev cnt (S : sS) (l : Nat) : Prop := 0 < sBw S 0 ∧ sBw S l = sBw S 0
theorem RX.bx {S : sS} {σ : zM} (hW : WF S) (h : RX S σ) {l : Nat} (hl : l < 2) : Bx σ (44 + 2 * l) (sBw S l) (sUs S l) := ⟨(h.2.2.1 l hl).1, (hW.1 l hl).1, fun w hw p hp => (h.2.2.1 l hl).2 w hw p hp⟩
theorem RX.py {S : sS} {σ : zM} (h : RX S σ) {p : Nat} (hp : p < sPc S) : Py σ (48 + 2 * p) (sPl S p) (44 + 2 * (sPl S p).2.1) := by
  obtain ⟨a1, a2, a3, a4, a5, a6⟩ := h.2.2.2.1.2 p hp
  exact ⟨a1, a2, a3, a4, a5⟩
theorem RX.ds {S : sS} {σ : zM} (h : RX S σ) {p : Nat} (hp : p < sPc S) {w : Nat} (hw : w < 8) : gi σ (48 + 2 * p + 1) w = nI (bset (dList (us0 S.2.2.1 (sPl S p).2.1 w) (dMost (sPl S p)))) := by
  obtain ⟨a1, a2, a3, a4, a5, a6⟩ := h.2.2.2.1.2 p hp
  exact a6 w hw
theorem RM.bx {S : sS} {σ : zM} (hW : WF S) (h : RM S σ) {l : Nat} (hl : l < 2) : mBx σ l (sBw S l) (sUs S l) := ⟨(hW.1 l hl).1, fun w hw p hp => (h.2.2.1 l hl).2 w hw p hp⟩
theorem RM.py {S : sS} {σ : zM} (h : RM S σ) {p : Nat} (hp : p < sPc S) : mPy σ p (sPl S p) := h.2.2.2.1.2 p hp
theorem uz_le {S : sS} (hW : WF S) {l : Nat} (hl : l < 2) (w p : Nat) (hp : p < 10) : uz (sBw S l) (sUs S l) w p ≤ 9 := by
  unfold uz
  split
  · rename_i h; exact ((hW.1 l hl).2 w h).1 p hp
  · omega
theorem bw_le {S : sS} (hW : WF S) {l : Nat} (hl : l < 2) : sBw S l ≤ 8 := (hW.1 l hl).1
set_option maxRecDepth 20000 in
theorem tX9_isWord {E : zE} {d : Nat} {σ : zM} {S : sS} {w : Int32} (hW : WF S) (hX : RX S σ) : Ret E mX9_isWord d [zr E 0, .int w] σ (qI fun x τ => x = bI (decide (inN w (sBw S 0))) ∧ τ = σ) := by
  have h8 := bw_le hW (show 0 < 2 by omega)
  have hb : gi σ (44 + 2 * 0) 1 = nI (sBw S 0) := (hX.2.2.1 0 (by omega)).1
  refine Ret.of [some (zr E 0), some (.int w)] (by decide +kernel) (Nat.le_of_ble_eq_true rfl) rfl ?_
  refine z_iload_n 1 dX9_isWord_0 rfl rfl ?_
  refine z_if_lt 21 4 dX9_isWord_1 (by decide) rfl (fun h1 => ?_) (fun h1 => ?_)
  · (try rw [nI_lt0 (by omega)] at h1)
    refine z_iconst 22 (v := nI 0) dX9_isWord_21 rfl rfl ?_
    refine z_rz dX9_isWord_22 rfl (by first | exact Or.inl rfl | exact Or.inr rfl | exact bI_01 _ | assumption) ?_
    first | exact ⟨bI_f (inN_f1 h1), rfl⟩ | exact ⟨bI_f (inN_f2 (by omega) h14), rfl⟩ | exact ⟨bI_t (inN_t (by omega) h1 h14), rfl⟩
  · (try rw [nI_lt0 (by omega)] at h1)
    refine z_iload_n 5 dX9_isWord_4 rfl rfl ?_
    refine z_aload_n 6 dX9_isWord_5 rfl rfl ?_
    refine gX9_20 9 rfl dX9_isWord_6 rfl ?_
    refine z_iconst 10 (v := nI 0) dX9_isWord_9 rfl rfl ?_
    refine z_aald3 11 dX9_isWord_10 rfl (by omega) ?_
    refine gX9_156 14 rfl dX9_isWord_11 rfl (by first | assumption | rfl) ?_
    rw [hb]
    refine z_icmp_ge 21 17 dX9_isWord_14 (by decide) rfl (fun h14 => ?_) (fun h14 => ?_)
    · (try rw [nI_leI (by omega) (by omega)] at h14)
      refine z_iconst 22 (v := nI 0) dX9_isWord_21 rfl rfl ?_
      refine z_rz dX9_isWord_22 rfl (by first | exact Or.inl rfl | exact Or.inr rfl | exact bI_01 _ | assumption) ?_
      first | exact ⟨bI_f (inN_f1 h1), rfl⟩ | exact ⟨bI_f (inN_f2 (by omega) h14), rfl⟩ | exact ⟨bI_t (inN_t (by omega) h1 h14), rfl⟩
    · (try rw [nI_leI (by omega) (by omega)] at h14)
      refine z_iconst 18 (v := nI 1) dX9_isWord_17 rfl rfl ?_
      refine z_goto 22 dX9_isWord_18 rfl ?_
      refine z_rz dX9_isWord_22 rfl (by first | exact Or.inl rfl | exact Or.inr rfl | exact bI_01 _ | assumption) ?_
      first | exact ⟨bI_f (inN_f1 h1), rfl⟩ | exact ⟨bI_f (inN_f2 (by omega) h14), rfl⟩ | exact ⟨bI_t (inN_t (by omega) h1 h14), rfl⟩
set_option maxRecDepth 20000 in
theorem tX9_isPlayer {E : zE} {d : Nat} {σ : zM} {n : Nat} {w : Int32} (hn : gi σ 0 11 = nI n) (h8 : n ≤ 8) : Ret E mX9_isPlayer d [zr E 0, .int w] σ (qI fun x τ => x = bI (decide (inN w n)) ∧ τ = σ) := by
  refine Ret.of [some (zr E 0), some (.int w)] (by decide +kernel) (Nat.le_of_ble_eq_true rfl) rfl ?_
  refine z_iload_n 1 dX9_isPlayer_0 rfl rfl ?_
  refine z_if_lt 16 4 dX9_isPlayer_1 (by decide) rfl (fun h1 => ?_) (fun h1 => ?_)
  · (try rw [nI_lt0 (by omega)] at h1)
    refine z_iconst 17 (v := nI 0) dX9_isPlayer_16 rfl rfl ?_
    refine z_rz dX9_isPlayer_17 rfl (by first | exact Or.inl rfl | exact Or.inr rfl | exact bI_01 _ | assumption) ?_
    first | exact ⟨bI_f (inN_f1 h1), rfl⟩ | exact ⟨bI_f (inN_f2 (by omega) h9), rfl⟩ | exact ⟨bI_t (inN_t (by omega) h1 h9), rfl⟩
  · (try rw [nI_lt0 (by omega)] at h1)
    refine z_iload_n 5 dX9_isPlayer_4 rfl rfl ?_
    refine z_aload_n 6 dX9_isPlayer_5 rfl rfl ?_
    refine gX9_150 9 rfl dX9_isPlayer_6 rfl ?_
    rw [hn]
    refine z_icmp_ge 16 12 dX9_isPlayer_9 (by decide) rfl (fun h9 => ?_) (fun h9 => ?_)
    · (try rw [nI_leI (by omega) (by omega)] at h9)
      refine z_iconst 17 (v := nI 0) dX9_isPlayer_16 rfl rfl ?_
      refine z_rz dX9_isPlayer_17 rfl (by first | exact Or.inl rfl | exact Or.inr rfl | exact bI_01 _ | assumption) ?_
      first | exact ⟨bI_f (inN_f1 h1), rfl⟩ | exact ⟨bI_f (inN_f2 (by omega) h9), rfl⟩ | exact ⟨bI_t (inN_t (by omega) h1 h9), rfl⟩
    · (try rw [nI_leI (by omega) (by omega)] at h9)
      refine z_iconst 13 (v := nI 1) dX9_isPlayer_12 rfl rfl ?_
      refine z_goto 17 dX9_isPlayer_13 rfl ?_
      refine z_rz dX9_isPlayer_17 rfl (by first | exact Or.inl rfl | exact Or.inr rfl | exact bI_01 _ | assumption) ?_
      first | exact ⟨bI_f (inN_f1 h1), rfl⟩ | exact ⟨bI_f (inN_f2 (by omega) h9), rfl⟩ | exact ⟨bI_t (inN_t (by omega) h1 h9), rfl⟩
theorem tX9_isPl {E : zE} {d : Nat} {σ : zM} {S : sS} {w : Int32} (hW : WF S) (hX : RX S σ) : Ret E mX9_isPlayer d [zr E 0, .int w] σ (qI fun x τ => x = bI (decide (inN w (sPc S))) ∧ τ = σ) := tX9_isPlayer hX.2.2.2.1.1 hW.2.1.1
set_option maxRecDepth 20000 in
theorem tX9_boxCounts {E : zE} {d : Nat} {σ : zM} {S : sS} {l : Nat} (hW : WF S) (hX : RX S σ) (hl : l < 2) : Ret E mX9_boxCounts (d + 1) [zr E 0, .int (nI l)] σ (qI fun x τ => x = bI (decide (cnt S l)) ∧ τ = σ) := by
  have h8 := bw_le hW (show 0 < 2 by omega)
  have h8l := bw_le hW hl
  have hb : gi σ (44 + 2 * 0) 1 = nI (sBw S 0) := (hX.2.2.1 0 (by omega)).1
  have hbl : gi σ (44 + 2 * l) 1 = nI (sBw S l) := (hX.2.2.1 l hl).1
  have hkb := kd_b hl
  have hl' : inN (nI l) 2 := inN_nI hl (by omega)
  refine Ret.of [some (zr E 0), some (.int (nI l))] (by decide +kernel) (Nat.le_of_ble_eq_true rfl) rfl ?_
  refine z_iload_n 1 dX9_boxCounts_0 rfl rfl ?_
  refine z_cSI1 4 (tX9_isLand) kX9_isLand dX9_boxCounts_1 rfl lX9_143 (Nat.le_of_ble_eq_true rfl) ?_
  rintro _ _ ⟨e1, e2⟩
  replace e1 := e1.symm
  replace e2 := e2.symm
  subst e1
  subst e2
  refine z_ifb_eq 44 7 dX9_boxCounts_4 (by decide) rfl (fun h4 => ?_) (fun h4 => ?_)
  · exact absurd hl' h4
  · refine z_aload_n 8 dX9_boxCounts_7 rfl rfl ?_
    refine gX9_20 11 rfl dX9_boxCounts_8 rfl ?_
    refine z_iload_n 12 dX9_boxCounts_11 rfl rfl ?_
    refine z_aald3 13 dX9_boxCounts_12 rfl (by omega) ?_
    refine gX9_156 16 rfl dX9_boxCounts_13 rfl (by first | assumption | rfl) ?_
    rw [hbl]
    refine z_if_le 44 19 dX9_boxCounts_16 (by decide) rfl (fun h16 => ?_) (fun h16 => ?_)
    · (try rw [nI_le0 (by omega)] at h16)
      refine z_iconst 45 (v := nI 0) dX9_boxCounts_44 rfl rfl ?_
      refine z_rz dX9_boxCounts_45 rfl (by first | exact Or.inl rfl | exact Or.inr rfl | exact bI_01 _ | assumption) ?_
      first | exact ⟨bI_f (fun z => by have z1 := z.1; have z2 := z.2; omega), rfl⟩ | exact ⟨bI_t ⟨by omega, by omega⟩, rfl⟩
    · (try rw [nI_le0 (by omega)] at h16)
      refine z_aload_n 20 dX9_boxCounts_19 rfl rfl ?_
      refine gX9_20 23 rfl dX9_boxCounts_20 rfl ?_
      refine z_iload_n 24 dX9_boxCounts_23 rfl rfl ?_
      refine z_aald3 25 dX9_boxCounts_24 rfl (by omega) ?_
      refine gX9_156 28 rfl dX9_boxCounts_25 rfl (by first | assumption | rfl) ?_
      rw [hbl]
      refine z_aload_n 29 dX9_boxCounts_28 rfl rfl ?_
      refine gX9_20 32 rfl dX9_boxCounts_29 rfl ?_
      refine z_iconst 33 (v := nI 0) dX9_boxCounts_32 rfl rfl ?_
      refine z_aald3 34 dX9_boxCounts_33 rfl (by omega) ?_
      refine gX9_156 37 rfl dX9_boxCounts_34 rfl (by first | assumption | rfl) ?_
      rw [hb]
      refine z_icmp_ne 44 40 dX9_boxCounts_37 (by decide) rfl (fun h37 => ?_) (fun h37 => ?_)
      · (try rw [nI_eq (by omega) (by omega)] at h37)
        refine z_iconst 45 (v := nI 0) dX9_boxCounts_44 rfl rfl ?_
        refine z_rz dX9_boxCounts_45 rfl (by first | exact Or.inl rfl | exact Or.inr rfl | exact bI_01 _ | assumption) ?_
        first | exact ⟨bI_f (fun z => by have z1 := z.1; have z2 := z.2; omega), rfl⟩ | exact ⟨bI_t ⟨by omega, by omega⟩, rfl⟩
      · (try rw [nI_eq (by omega) (by omega)] at h37)
        refine z_iconst 41 (v := nI 1) dX9_boxCounts_40 rfl rfl ?_
        refine z_goto 45 dX9_boxCounts_41 rfl ?_
        refine z_rz dX9_boxCounts_45 rfl (by first | exact Or.inl rfl | exact Or.inr rfl | exact bI_01 _ | assumption) ?_
        first | exact ⟨bI_f (fun z => by have z1 := z.1; have z2 := z.2; omega), rfl⟩ | exact ⟨bI_t ⟨by omega, by omega⟩, rfl⟩
/-! usual -/
def zx (i : Int32) : Nat := i.toNatClampNeg
theorem zx_nI {j : Nat} (h : j < 2 ^ 31) : zx (nI j) = j := nI_clamp h
def spUsual (S : sS) (l w p : Int32) : Int32 × sS := if ¬ inN l 2 ∨ ¬ inN w 8 ∨ ¬ inN p 10 then (-1, S) else if ¬ cnt S (zx l) then sFd S 1 else if inN w (sBw S 0) then (nI (sUs S (zx l) (zx w) (zx p)), S) else (-1, S)
set_option maxRecDepth 20000 in
theorem tX9_usual {E : zE} {d : Nat} {σ : zM} {S : sS} {l w p : Int32} (hW : WF S) (hX : RX S σ) : Ret E mX9_usual (d + 2) [zr E 0, .int l, .int w, .int p] σ (qX σ (spUsual S l w p)) := by
  by_cases hA : ¬ inN l 2 ∨ ¬ inN w 8 ∨ ¬ inN p 10
  · refine Ret.of [some (zr E 0), some (.int l), some (.int w), some (.int p)] (by decide +kernel) (Nat.le_of_ble_eq_true rfl) rfl ?_
    refine z_iload_n 1 dX9_usual_0 rfl rfl ?_
    refine z_cSI1 4 (tX9_isLand) kX9_isLand dX9_usual_1 rfl lX9_143 (Nat.le_of_ble_eq_true rfl) ?_
    rintro _ _ ⟨e1, e2⟩
    replace e1 := e1.symm
    replace e2 := e2.symm
    subst e1
    subst e2
    refine z_ifb_eq 24 7 dX9_usual_4 (by decide) rfl (fun h4 => ?_) (fun h4 => ?_)
    · refine z_iconst 25 (v := (-1)) dX9_usual_24 rfl rfl ?_
      refine z_ri dX9_usual_25 rfl ?_
      exact qx0 (if_pos hA) hX Fr.rf
    · refine z_iload_n 8 dX9_usual_7 rfl rfl ?_
      refine z_cSI1 11 (tX9_isEverWord) kX9_isEverWord dX9_usual_8 rfl lX9_159 (Nat.le_of_ble_eq_true rfl) ?_
      rintro _ _ ⟨e1, e2⟩
      replace e1 := e1.symm
      replace e2 := e2.symm
      subst e1
      subst e2
      refine z_ifb_eq 24 14 dX9_usual_11 (by decide) rfl (fun h11 => ?_) (fun h11 => ?_)
      · refine z_iconst 25 (v := (-1)) dX9_usual_24 rfl rfl ?_
        refine z_ri dX9_usual_25 rfl ?_
        exact qx0 (if_pos hA) hX Fr.rf
      · refine z_iload_n 15 dX9_usual_14 rfl rfl ?_
        refine z_if_lt 24 18 dX9_usual_15 (by decide) rfl (fun h15 => ?_) (fun h15 => ?_)
        · (try rw [nI_lt0 (by omega)] at h15)
          refine z_iconst 25 (v := (-1)) dX9_usual_24 rfl rfl ?_
          refine z_ri dX9_usual_25 rfl ?_
          exact qx0 (if_pos hA) hX Fr.rf
        · (try rw [nI_lt0 (by omega)] at h15)
          refine z_iload_n 19 dX9_usual_18 rfl rfl ?_
          refine z_bipush 21 (v := nI 10) dX9_usual_19 rfl rfl ?_
          refine z_icmp_lt 26 24 dX9_usual_21 (by decide) rfl (fun h21 => ?_) (fun h21 => ?_)
          · exact absurd hA (fun z => z.elim (fun q => q h4) (fun z => z.elim (fun q => q h11) (fun q => q (inN_t (by decide) h15 (Int32.not_le.mpr h21)))))
          · refine z_iconst 25 (v := (-1)) dX9_usual_24 rfl rfl ?_
            refine z_ri dX9_usual_25 rfl ?_
            exact qx0 (if_pos hA) hX Fr.rf
  have hA1 : inN l 2 := Classical.byContradiction fun q => hA (Or.inl q)
  have hA2 : inN w 8 := Classical.byContradiction fun q => hA (Or.inr (Or.inl q))
  have hA3 : inN p 10 := Classical.byContradiction fun q => hA (Or.inr (Or.inr q))
  have e0 : spUsual S l w p = _ := if_neg hA
  have hA1' := hA1
  have hA2' := hA2
  obtain ⟨l, hl, rfl⟩ := inN_of hA1
  obtain ⟨w, hw, rfl⟩ := inN_of hA2
  obtain ⟨p, hp, rfl⟩ := inN_of hA3
  rw [zx_nI (by omega), zx_nI (by omega), zx_nI (by omega)] at e0
  have hb := kd_b hl
  have hb1 := kd_b1 hl
  have hB := hX.bx hW hl
  refine Ret.of [some (zr E 0), some (.int (nI l)), some (.int (nI w)), some (.int (nI p))] (by decide +kernel) (Nat.le_of_ble_eq_true rfl) rfl ?_
  refine z_iload_n 1 dX9_usual_0 rfl rfl ?_
  refine z_cSI1 4 (tX9_isLand) kX9_isLand dX9_usual_1 rfl lX9_143 (Nat.le_of_ble_eq_true rfl) ?_
  rintro _ _ ⟨e1, e2⟩
  replace e1 := e1.symm
  replace e2 := e2.symm
  subst e1
  subst e2
  refine z_ifb_eq 24 7 dX9_usual_4 (by decide) rfl (fun h4 => ?_) (fun h4 => ?_)
  · exact absurd hA1' h4
  · refine z_iload_n 8 dX9_usual_7 rfl rfl ?_
    refine z_cSI1 11 (tX9_isEverWord) kX9_isEverWord dX9_usual_8 rfl lX9_159 (Nat.le_of_ble_eq_true rfl) ?_
    rintro _ _ ⟨e1, e2⟩
    replace e1 := e1.symm
    replace e2 := e2.symm
    subst e1
    subst e2
    refine z_ifb_eq 24 14 dX9_usual_11 (by decide) rfl (fun h11 => ?_) (fun h11 => ?_)
    · exact absurd hA2' h11
    · refine z_iload_n 15 dX9_usual_14 rfl rfl ?_
      refine z_if_lt 24 18 dX9_usual_15 (by decide) rfl (fun h15 => ?_) (fun h15 => ?_)
      · exact absurd h15 (nI_pos (by omega))
      · refine z_iload_n 19 dX9_usual_18 rfl rfl ?_
        refine z_bipush 21 (v := nI 10) dX9_usual_19 rfl rfl ?_
        refine z_icmp_lt 26 24 dX9_usual_21 (by decide) rfl (fun h21 => ?_) (fun h21 => ?_)
        · (try rw [nI_ltI (by omega) (by omega)] at h21)
          refine z_aload_n 27 dX9_usual_26 rfl rfl ?_
          refine z_iload_n 28 dX9_usual_27 rfl rfl ?_
          refine z_cVI1 31 (tX9_boxCounts (by assumption) (by assumption) (by omega)) kX9_boxCounts dX9_usual_28 rfl lX9_162 (by first | assumption | rfl) (Nat.le_of_ble_eq_true rfl) ?_
          rintro _ _ ⟨e1, e2⟩
          replace e1 := e1.symm
          replace e2 := e2.symm
          subst e1
          subst e2
          refine z_ifb_ne 43 34 dX9_usual_31 (by decide) rfl (fun h31 => ?_) (fun h31 => ?_)
          · refine z_aload_n 44 dX9_usual_43 rfl rfl ?_
            refine z_iload_n 45 dX9_usual_44 rfl rfl ?_
            refine z_cVI1 48 (tX9_isWord (by assumption) (by assumption)) kX9_isWord dX9_usual_45 rfl lX9_165 (by first | assumption | rfl) (Nat.le_of_ble_eq_true rfl) ?_
            rintro _ _ ⟨e1, e2⟩
            replace e1 := e1.symm
            replace e2 := e2.symm
            subst e1
            subst e2
            refine z_ifb_eq 65 51 dX9_usual_48 (by decide) rfl (fun h48 => ?_) (fun h48 => ?_)
            · refine z_iconst 66 (v := (-1)) dX9_usual_65 rfl rfl ?_
              refine z_ri dX9_usual_66 rfl ?_
              first
                | (refine qx0 (e0.trans ((if_neg (fun z => z h31)).trans ((if_pos (inN_nI h48 (by omega))).trans ?_))) hX Fr.rf
                   rw [show uz (sBw S l) (sUs S l) w p = sUs S l w p from if_pos hwb])
                | exact qx0 (e0.trans ((if_neg (fun z => z h31)).trans (if_neg h48))) hX Fr.rf
            · rw [inN_nI' (by omega)] at h48
              have hwb : w < sBw S l := by rw [h31.2]; exact h48
              refine z_aload_n 52 dX9_usual_51 rfl rfl ?_
              refine gX9_20 55 rfl dX9_usual_52 rfl ?_
              refine z_iload_n 56 dX9_usual_55 rfl rfl ?_
              refine z_aald3 57 dX9_usual_56 rfl (by omega) ?_
              refine z_iload_n 58 dX9_usual_57 rfl rfl ?_
              refine z_iload_n 59 dX9_usual_58 rfl rfl ?_
              refine z_cVI2 62 (tX1_usualOf (by first | assumption | rfl) (by first | assumption | rfl) (by first | assumption | rfl) (by omega) (by omega)) kX1_usualOf dX9_usual_59 rfl lX9_168 (by first | assumption | rfl) (Nat.le_of_ble_eq_true rfl) ?_
              rintro _ _ ⟨e1, e2⟩
              replace e1 := e1.symm
              replace e2 := e2.symm
              subst e1
              subst e2
              refine z_goto 66 dX9_usual_62 rfl ?_
              refine z_ri dX9_usual_66 rfl ?_
              first
                | (refine qx0 (e0.trans ((if_neg (fun z => z h31)).trans ((if_pos (inN_nI h48 (by omega))).trans ?_))) hX Fr.rf
                   rw [show uz (sBw S l) (sUs S l) w p = sUs S l w p from if_pos hwb])
                | exact qx0 (e0.trans ((if_neg (fun z => z h31)).trans (if_neg h48))) hX Fr.rf
          · refine z_aload_n 35 dX9_usual_34 rfl rfl ?_
            refine gX9_39 38 rfl dX9_usual_35 rfl ?_
            refine z_iconst 39 (v := nI 1) dX9_usual_38 rfl rfl ?_
            refine z_cVI1 42 (tX0_found (by omega) (by omega)) kX0_found dX9_usual_39 rfl lX9_87 (by first | assumption | rfl) (Nat.le_of_ble_eq_true rfl) ?_
            rintro _ _ ⟨e1, e2⟩
            replace e1 := e1.symm
            replace e2 := e2.symm
            subst e1
            subst e2
            refine z_ri dX9_usual_42 rfl ?_
            exact qxf hW (e0.trans (if_pos h31)) (by decide) hX Fr.rf
        · (try rw [nI_ltI (by omega) (by omega)] at h21)
          omega
/-! about -/
def plf (q : sPly) (j : Nat) : Nat := match j with
  | 0 => q.1
  | 1 => q.2.1
  | 2 => q.2.2.1
  | _ => q.2.2.2
def spAbout (S : sS) (p w : Int32) : Int32 × sS := if ¬ inN p (sPc S) ∨ ¬ inN w 4 then (-1, S) else sAsk S (nI (plf (sPl S p.toNatClampNeg) w.toNatClampNeg)) (nI 1)
theorem z_tab {E : zE} {M : zY} {d : Nat} {Q : Option Value → zM → Prop} {pc : Nat} {ls : List (Option Value)} {st : List Value} {σ : zM} {dflt lo hi off : Int} {offs : Array Int} {len : Nat} {x : Int32} (tgt : Nat) (hd : decode M.2.1 pc = .ok (.tableswitch dflt lo hi offs, len)) (h1 : ¬ x.toInt < lo) (h2 : ¬ hi < x.toInt) (ho : offs[(x.toInt - lo).toNat]? = some off) (ht : (pc : Int) + off = (tgt : Int)) (k : At E M d Q tgt ls st σ) : At E M d Q pc ls (.int x :: st) σ := fun p e s m args below meth c H locs la hX hP hS hl => lv_tableIn hX.1 hX.2.1 hd h1 h2 ho ht (k p e s m args below meth c H locs la hX hP hS hl)
theorem z_tabD {E : zE} {M : zY} {d : Nat} {Q : Option Value → zM → Prop} {pc : Nat} {ls : List (Option Value)} {st : List Value} {σ : zM} {dflt lo hi : Int} {offs : Array Int} {len : Nat} {x : Int32} (tgt : Nat) (hd : decode M.2.1 pc = .ok (.tableswitch dflt lo hi offs, len)) (h : x.toInt < lo ∨ hi < x.toInt) (ht : (pc : Int) + dflt = (tgt : Int)) (k : At E M d Q tgt ls st σ) : At E M d Q pc ls (.int x :: st) σ := fun p e s m args below meth c H locs la hX hP hS hl => lv_tableOut hX.1 hX.2.1 hd h ht (k p e s m args below meth c H locs la hX hP hS hl)
set_option maxRecDepth 20000 in
theorem tX4_tells {E : zE} {d : Nat} {σ : zM} {a b j : Nat} {q : sPly} (hk : (kd a).1 = 4) (hP : Py σ a q b) (hj : j < 4) : Ret E mX4_tells d [zr E a, .int (nI j)] σ (qI fun x τ => x = nI (plf q j) ∧ τ = σ) := by
  obtain ⟨p1, p2, p3, p4, p5⟩ := hP
  refine Ret.of [some (zr E a), some (.int (nI j))] (by decide +kernel) (Nat.le_of_ble_eq_true rfl) rfl ?_
  refine z_iload_n 1 dX4_tells_0 rfl rfl ?_
  match j, hj with
  | 0, _ =>
    refine z_tab 28 dX4_tells_1 (by decide) (by decide) rfl (by decide) ?_
    refine z_aload_n 29 dX4_tells_28 rfl rfl ?_
    refine gX4_19 32 rfl dX4_tells_29 rfl (by first | assumption | rfl) ?_
    refine z_ri dX4_tells_32 rfl ?_
    exact ⟨p1, rfl⟩
  | 1, _ =>
    refine z_tab 33 dX4_tells_1 (by decide) (by decide) rfl (by decide) ?_
    refine z_aload_n 34 dX4_tells_33 rfl rfl ?_
    refine gX4_23 37 rfl dX4_tells_34 rfl (by first | assumption | rfl) ?_
    refine z_ri dX4_tells_37 rfl ?_
    exact ⟨p2, rfl⟩
  | 2, _ =>
    refine z_tab 38 dX4_tells_1 (by decide) (by decide) rfl (by decide) ?_
    refine z_aload_n 39 dX4_tells_38 rfl rfl ?_
    refine gX4_26 42 rfl dX4_tells_39 rfl (by first | assumption | rfl) ?_
    refine z_ri dX4_tells_42 rfl ?_
    exact ⟨p3, rfl⟩
  | 3, _ =>
    refine z_tabD 43 dX4_tells_1 (by decide) (by decide) ?_
    refine z_aload_n 44 dX4_tells_43 rfl rfl ?_
    refine gX4_29 47 rfl dX4_tells_44 rfl (by first | assumption | rfl) ?_
    refine z_ri dX4_tells_47 rfl ?_
    exact ⟨p4, rfl⟩
set_option maxRecDepth 20000 in
theorem tX9_about {E : zE} {d : Nat} {σ : zM} {S : sS} {p w : Int32} (hW : WF S) (hX : RX S σ) : Ret E mX9_about (d + 1) [zr E 0, .int p, .int w] σ (qX σ (spAbout S p w)) := by
  have h8 := hW.2.1.1
  by_cases hA : ¬ inN p (sPc S) ∨ ¬ inN w 4
  · refine Ret.of [some (zr E 0), some (.int p), some (.int w)] (by decide +kernel) (Nat.le_of_ble_eq_true rfl) rfl ?_
    refine z_aload_n 1 dX9_about_0 rfl rfl ?_
    refine z_iload_n 2 dX9_about_1 rfl rfl ?_
    refine z_cVI1 5 (tX9_isPl (by assumption) (by assumption)) kX9_isPlayer dX9_about_2 rfl lX9_176 (by first | assumption | rfl) (Nat.le_of_ble_eq_true rfl) ?_
    rintro _ _ ⟨e1, e2⟩
    replace e1 := e1.symm
    replace e2 := e2.symm
    subst e1
    subst e2
    refine z_ifb_eq 17 8 dX9_about_5 (by decide) rfl (fun h5 => ?_) (fun h5 => ?_)
    · refine z_iconst 18 (v := (-1)) dX9_about_17 rfl rfl ?_
      refine z_ri dX9_about_18 rfl ?_
      exact qx0 (if_pos hA) hX Fr.rf
    · refine z_iload_n 9 dX9_about_8 rfl rfl ?_
      refine z_if_lt 17 12 dX9_about_9 (by decide) rfl (fun h9 => ?_) (fun h9 => ?_)
      · (try rw [nI_lt0 (by omega)] at h9)
        refine z_iconst 18 (v := (-1)) dX9_about_17 rfl rfl ?_
        refine z_ri dX9_about_18 rfl ?_
        exact qx0 (if_pos hA) hX Fr.rf
      · (try rw [nI_lt0 (by omega)] at h9)
        refine z_iload_n 13 dX9_about_12 rfl rfl ?_
        refine z_iconst 14 (v := nI 3) dX9_about_13 rfl rfl ?_
        refine z_icmp_le 19 17 dX9_about_14 (by decide) rfl (fun h14 => ?_) (fun h14 => ?_)
        · exact absurd hA (fun z => z.elim (fun q => q h5) (fun q => q ((inN_in (by decide)).mp ⟨by rw [nI_0]; exact Int32.not_lt.mp h9, h14⟩)))
        · refine z_iconst 18 (v := (-1)) dX9_about_17 rfl rfl ?_
          refine z_ri dX9_about_18 rfl ?_
          exact qx0 (if_pos hA) hX Fr.rf
  have hA1 : inN p (sPc S) := Classical.byContradiction fun q => hA (Or.inl q)
  have hA2 : inN w 4 := Classical.byContradiction fun q => hA (Or.inr q)
  have e0 : spAbout S p w = _ := if_neg hA
  have hA1' := hA1
  obtain ⟨p, hp, rfl⟩ := inN_of hA1
  obtain ⟨w, hw, rfl⟩ := inN_of hA2
  rw [nI_clamp (by omega), nI_clamp (by omega)] at e0
  have hk := kd_p (show p < 8 by omega)
  refine Ret.of [some (zr E 0), some (.int (nI p)), some (.int (nI w))] (by decide +kernel) (Nat.le_of_ble_eq_true rfl) rfl ?_
  refine z_aload_n 1 dX9_about_0 rfl rfl ?_
  refine z_iload_n 2 dX9_about_1 rfl rfl ?_
  refine z_cVI1 5 (tX9_isPl (by assumption) (by assumption)) kX9_isPlayer dX9_about_2 rfl lX9_176 (by first | assumption | rfl) (Nat.le_of_ble_eq_true rfl) ?_
  rintro _ _ ⟨e1, e2⟩
  replace e1 := e1.symm
  replace e2 := e2.symm
  subst e1
  subst e2
  refine z_ifb_eq 17 8 dX9_about_5 (by decide) rfl (fun h5 => ?_) (fun h5 => ?_)
  · exact absurd hA1' h5
  · refine z_iload_n 9 dX9_about_8 rfl rfl ?_
    refine z_if_lt 17 12 dX9_about_9 (by decide) rfl (fun h9 => ?_) (fun h9 => ?_)
    · exact absurd h9 (nI_pos (by omega))
    · refine z_iload_n 13 dX9_about_12 rfl rfl ?_
      refine z_iconst 14 (v := nI 3) dX9_about_13 rfl rfl ?_
      refine z_icmp_le 19 17 dX9_about_14 (by decide) rfl (fun h14 => ?_) (fun h14 => ?_)
      · (try rw [nI_leI (by omega) (by omega)] at h14)
        refine z_aload_n 20 dX9_about_19 rfl rfl ?_
        refine gX9_39 23 rfl dX9_about_20 rfl ?_
        refine z_aload_n 24 dX9_about_23 rfl rfl ?_
        refine gX9_26 27 rfl dX9_about_24 rfl ?_
        refine z_iload_n 28 dX9_about_27 rfl rfl ?_
        refine z_aald4 29 dX9_about_28 rfl (by omega) ?_
        refine z_iload_n 30 dX9_about_29 rfl rfl ?_
        refine z_cVI1 33 (tX4_tells hk (hX.py hp) hw) kX4_tells dX9_about_30 rfl lX9_179 (by first | assumption | rfl) (Nat.le_of_ble_eq_true rfl) ?_
        rintro _ _ ⟨e1, e2⟩
        replace e1 := e1.symm
        replace e2 := e2.symm
        subst e1
        subst e2
        refine z_cVI1 36 (tX0_ask) kX0_ask dX9_about_33 rfl lX9_104 (by first | assumption | rfl) (Nat.le_of_ble_eq_true rfl) ?_
        rintro _ _ ⟨e1, e2⟩
        replace e1 := e1.symm
        replace e2 := e2.symm
        subst e1
        subst e2
        refine z_ri dX9_about_36 rfl ?_
        exact qxa hW e0 hX Fr.rf
      · (try rw [nI_leI (by omega) (by omega)] at h14)
        omega
/-! the same of the reference -/
set_option maxRecDepth 20000 in
theorem tX10_words {E : zE} {d : Nat} {σ : zM} {S : sS} (hX : RM S σ) : Ret E mX10_words d [zr E 102] σ (qI fun x τ => x = nI (sBw S 0) ∧ τ = σ) := by
  refine Ret.of [some (zr E 102)] (by decide +kernel) (Nat.le_of_ble_eq_true rfl) rfl ?_
  refine z_aload_n 1 dX10_words_0 rfl rfl ?_
  refine gX10_32 4 rfl dX10_words_1 rfl ?_
  refine z_iconst 5 (v := nI 0) dX10_words_4 rfl rfl ?_
  refine z_ialdn 6 dX10_words_5 rfl (by first | assumption | rfl) (by omega) ?_
  refine z_ri dX10_words_6 rfl ?_
  exact ⟨(hX.2.2.1 0 (by omega)).1, rfl⟩
set_option maxRecDepth 20000 in
theorem tX10_isLand {E : zE} {d : Nat} {σ : zM} {S : sS} {l : Nat} (hW : WF S) (hX : RM S σ) (hl : l < 2) : Ret E mX10_isLand d [zr E 102, .int (nI l)] σ (qI fun x τ => x = bI (decide (cnt S l)) ∧ τ = σ) := by
  have h8 := bw_le hW (show 0 < 2 by omega)
  have h8l := bw_le hW hl
  have hb : gi σ 109 0 = nI (sBw S 0) := (hX.2.2.1 0 (by omega)).1
  have hbl : gi σ 109 l = nI (sBw S l) := (hX.2.2.1 l hl).1
  refine Ret.of [some (zr E 102), some (.int (nI l))] (by decide +kernel) (Nat.le_of_ble_eq_true rfl) rfl ?_
  refine z_aload_n 1 dX10_isLand_0 rfl rfl ?_
  refine gX10_32 4 rfl dX10_isLand_1 rfl ?_
  refine z_iconst 5 (v := nI 0) dX10_isLand_4 rfl rfl ?_
  refine z_ialdn 6 dX10_isLand_5 rfl (by first | assumption | rfl) (by omega) ?_
  rw [hb]
  refine z_if_le 28 9 dX10_isLand_6 (by decide) rfl (fun h6 => ?_) (fun h6 => ?_)
  · (try rw [nI_le0 (by omega)] at h6)
    refine z_iconst 29 (v := nI 0) dX10_isLand_28 rfl rfl ?_
    refine z_rz dX10_isLand_29 rfl (by first | exact Or.inl rfl | exact Or.inr rfl | exact bI_01 _ | assumption) ?_
    first | exact ⟨bI_f (fun z => by have z1 := z.1; have z2 := z.2; omega), rfl⟩ | exact ⟨bI_t ⟨by omega, by omega⟩, rfl⟩
  · (try rw [nI_le0 (by omega)] at h6)
    refine z_aload_n 10 dX10_isLand_9 rfl rfl ?_
    refine gX10_32 13 rfl dX10_isLand_10 rfl ?_
    refine z_iload_n 14 dX10_isLand_13 rfl rfl ?_
    refine z_ialdn 15 dX10_isLand_14 rfl (by first | assumption | rfl) (by omega) ?_
    rw [hbl]
    refine z_aload_n 16 dX10_isLand_15 rfl rfl ?_
    refine gX10_32 19 rfl dX10_isLand_16 rfl ?_
    refine z_iconst 20 (v := nI 0) dX10_isLand_19 rfl rfl ?_
    refine z_ialdn 21 dX10_isLand_20 rfl (by first | assumption | rfl) (by omega) ?_
    rw [hb]
    refine z_icmp_ne 28 24 dX10_isLand_21 (by decide) rfl (fun h21 => ?_) (fun h21 => ?_)
    · (try rw [nI_eq (by omega) (by omega)] at h21)
      refine z_iconst 29 (v := nI 0) dX10_isLand_28 rfl rfl ?_
      refine z_rz dX10_isLand_29 rfl (by first | exact Or.inl rfl | exact Or.inr rfl | exact bI_01 _ | assumption) ?_
      first | exact ⟨bI_f (fun z => by have z1 := z.1; have z2 := z.2; omega), rfl⟩ | exact ⟨bI_t ⟨by omega, by omega⟩, rfl⟩
    · (try rw [nI_eq (by omega) (by omega)] at h21)
      refine z_iconst 25 (v := nI 1) dX10_isLand_24 rfl rfl ?_
      refine z_goto 29 dX10_isLand_25 rfl ?_
      refine z_rz dX10_isLand_29 rfl (by first | exact Or.inl rfl | exact Or.inr rfl | exact bI_01 _ | assumption) ?_
      first | exact ⟨bI_f (fun z => by have z1 := z.1; have z2 := z.2; omega), rfl⟩ | exact ⟨bI_t ⟨by omega, by omega⟩, rfl⟩
set_option maxRecDepth 20000 in
theorem tX10_isWord {E : zE} {d : Nat} {σ : zM} {S : sS} {w : Int32} (hW : WF S) (hX : RM S σ) : Ret E mX10_isWord (d + 1) [zr E 102, .int w] σ (qI fun x τ => x = bI (decide (inN w (sBw S 0))) ∧ τ = σ) := by
  have h8 := bw_le hW (show 0 < 2 by omega)
  refine Ret.of [some (zr E 102), some (.int w)] (by decide +kernel) (Nat.le_of_ble_eq_true rfl) rfl ?_
  refine z_iload_n 1 dX10_isWord_0 rfl rfl ?_
  refine z_iconst 2 (v := nI 0) dX10_isWord_1 rfl rfl ?_
  refine z_aload_n 3 dX10_isWord_2 rfl rfl ?_
  refine z_cVI0 6 (tX10_words (by assumption)) kX10_words dX10_isWord_3 rfl lX10_144 (by first | assumption | rfl) (Nat.le_of_ble_eq_true rfl) ?_
  rintro _ _ ⟨e1, e2⟩
  replace e1 := e1.symm
  replace e2 := e2.symm
  subst e1
  subst e2
  refine z_iconst 7 (v := nI 1) dX10_isWord_6 rfl rfl ?_
  refine z_isub 8 dX10_isWord_7 rfl ?_
  refine z_cSI3 11 (tX10_in) kX10_in dX10_isWord_8 rfl lX10_91 (Nat.le_of_ble_eq_true rfl) ?_
  rintro _ _ ⟨e1, e2⟩
  replace e1 := e1.symm
  replace e2 := e2.symm
  subst e1
  subst e2
  refine z_rz dX10_isWord_11 rfl (by first | exact Or.inl rfl | exact Or.inr rfl | exact bI_01 _ | assumption) ?_
  exact ⟨in_n (by omega), rfl⟩
set_option maxRecDepth 20000 in
theorem tX10_isPlayer {E : zE} {d : Nat} {σ : zM} {S : sS} {w : Int32} (hW : WF S) (hX : RM S σ) : Ret E mX10_isPlayer (d + 1) [zr E 102, .int w] σ (qI fun x τ => x = bI (decide (inN w (sPc S))) ∧ τ = σ) := by
  have h8 := hW.2.1.1
  have hb : gi σ 102 13 = nI (sPc S) := hX.2.2.2.1.1
  refine Ret.of [some (zr E 102), some (.int w)] (by decide +kernel) (Nat.le_of_ble_eq_true rfl) rfl ?_
  refine z_iload_n 1 dX10_isPlayer_0 rfl rfl ?_
  refine z_iconst 2 (v := nI 0) dX10_isPlayer_1 rfl rfl ?_
  refine z_aload_n 3 dX10_isPlayer_2 rfl rfl ?_
  refine gX10_138 6 rfl dX10_isPlayer_3 rfl ?_
  rw [hb]
  refine z_iconst 7 (v := nI 1) dX10_isPlayer_6 rfl rfl ?_
  refine z_isub 8 dX10_isPlayer_7 rfl ?_
  refine z_cSI3 11 (tX10_in) kX10_in dX10_isPlayer_8 rfl lX10_91 (Nat.le_of_ble_eq_true rfl) ?_
  rintro _ _ ⟨e1, e2⟩
  replace e1 := e1.symm
  replace e2 := e2.symm
  subst e1
  subst e2
  refine z_rz dX10_isPlayer_11 rfl (by first | exact Or.inl rfl | exact Or.inr rfl | exact bI_01 _ | assumption) ?_
  exact ⟨in_n (by omega), rfl⟩
set_option maxRecDepth 20000 in
theorem tX10_usual {E : zE} {d : Nat} {σ : zM} {S : sS} {l w p : Int32} (hW : WF S) (hX : RM S σ) : Ret E mX10_usual (d + 2) [zr E 102, .int l, .int w, .int p] σ (qM σ (spUsual S l w p)) := by
  by_cases hA : ¬ inN l 2 ∨ ¬ inN w 8 ∨ ¬ inN p 10
  · refine Ret.of [some (zr E 102), some (.int l), some (.int w), some (.int p)] (by decide +kernel) (Nat.le_of_ble_eq_true rfl) rfl ?_
    refine z_iload_n 1 dX10_usual_0 rfl rfl ?_
    refine z_iconst 2 (v := nI 0) dX10_usual_1 rfl rfl ?_
    refine z_iconst 3 (v := nI 1) dX10_usual_2 rfl rfl ?_
    refine z_cSI3 6 (tX10_in) kX10_in dX10_usual_3 rfl lX10_91 (Nat.le_of_ble_eq_true rfl) ?_
    rintro _ _ ⟨e1, e2⟩
    replace e1 := e1.symm
    replace e2 := e2.symm
    subst e1
    subst e2
    rw [in_k (by decide)]
    refine z_ifb_eq 29 9 dX10_usual_6 (by decide) rfl (fun h6 => ?_) (fun h6 => ?_)
    · refine z_iconst 30 (v := (-1)) dX10_usual_29 rfl rfl ?_
      refine z_ri dX10_usual_30 rfl ?_
      exact qm0 (if_pos hA) hX Fr.rf
    · refine z_iload_n 10 dX10_usual_9 rfl rfl ?_
      refine z_iconst 11 (v := nI 0) dX10_usual_10 rfl rfl ?_
      refine z_bipush 13 (v := nI 7) dX10_usual_11 rfl rfl ?_
      refine z_cSI3 16 (tX10_in) kX10_in dX10_usual_13 rfl lX10_91 (Nat.le_of_ble_eq_true rfl) ?_
      rintro _ _ ⟨e1, e2⟩
      replace e1 := e1.symm
      replace e2 := e2.symm
      subst e1
      subst e2
      rw [in_k (by decide)]
      refine z_ifb_eq 29 19 dX10_usual_16 (by decide) rfl (fun h16 => ?_) (fun h16 => ?_)
      · refine z_iconst 30 (v := (-1)) dX10_usual_29 rfl rfl ?_
        refine z_ri dX10_usual_30 rfl ?_
        exact qm0 (if_pos hA) hX Fr.rf
      · refine z_iload_n 20 dX10_usual_19 rfl rfl ?_
        refine z_iconst 21 (v := nI 0) dX10_usual_20 rfl rfl ?_
        refine z_bipush 23 (v := nI 9) dX10_usual_21 rfl rfl ?_
        refine z_cSI3 26 (tX10_in) kX10_in dX10_usual_23 rfl lX10_91 (Nat.le_of_ble_eq_true rfl) ?_
        rintro _ _ ⟨e1, e2⟩
        replace e1 := e1.symm
        replace e2 := e2.symm
        subst e1
        subst e2
        rw [in_k (by decide)]
        refine z_ifb_ne 31 29 dX10_usual_26 (by decide) rfl (fun h26 => ?_) (fun h26 => ?_)
        · exact absurd hA (fun z => z.elim (fun q => q h6) (fun z => z.elim (fun q => q h16) (fun q => q h26)))
        · refine z_iconst 30 (v := (-1)) dX10_usual_29 rfl rfl ?_
          refine z_ri dX10_usual_30 rfl ?_
          exact qm0 (if_pos hA) hX Fr.rf
  have hA1 : inN l 2 := Classical.byContradiction fun q => hA (Or.inl q)
  have hA2 : inN w 8 := Classical.byContradiction fun q => hA (Or.inr (Or.inl q))
  have hA3 : inN p 10 := Classical.byContradiction fun q => hA (Or.inr (Or.inr q))
  have e0 : spUsual S l w p = _ := if_neg hA
  have hA1' := hA1
  have hA2' := hA2
  have hA3' := hA3
  obtain ⟨l, hl, rfl⟩ := inN_of hA1
  obtain ⟨w, hw, rfl⟩ := inN_of hA2
  obtain ⟨p, hp, rfl⟩ := inN_of hA3
  rw [zx_nI (by omega), zx_nI (by omega), zx_nI (by omega)] at e0
  have hB := hX.bx hW hl
  refine Ret.of [some (zr E 102), some (.int (nI l)), some (.int (nI w)), some (.int (nI p))] (by decide +kernel) (Nat.le_of_ble_eq_true rfl) rfl ?_
  refine z_iload_n 1 dX10_usual_0 rfl rfl ?_
  refine z_iconst 2 (v := nI 0) dX10_usual_1 rfl rfl ?_
  refine z_iconst 3 (v := nI 1) dX10_usual_2 rfl rfl ?_
  refine z_cSI3 6 (tX10_in) kX10_in dX10_usual_3 rfl lX10_91 (Nat.le_of_ble_eq_true rfl) ?_
  rintro _ _ ⟨e1, e2⟩
  replace e1 := e1.symm
  replace e2 := e2.symm
  subst e1
  subst e2
  rw [in_k (by decide)]
  refine z_ifb_eq 29 9 dX10_usual_6 (by decide) rfl (fun h6 => ?_) (fun h6 => ?_)
  · exact absurd hA1' h6
  · refine z_iload_n 10 dX10_usual_9 rfl rfl ?_
    refine z_iconst 11 (v := nI 0) dX10_usual_10 rfl rfl ?_
    refine z_bipush 13 (v := nI 7) dX10_usual_11 rfl rfl ?_
    refine z_cSI3 16 (tX10_in) kX10_in dX10_usual_13 rfl lX10_91 (Nat.le_of_ble_eq_true rfl) ?_
    rintro _ _ ⟨e1, e2⟩
    replace e1 := e1.symm
    replace e2 := e2.symm
    subst e1
    subst e2
    rw [in_k (by decide)]
    refine z_ifb_eq 29 19 dX10_usual_16 (by decide) rfl (fun h16 => ?_) (fun h16 => ?_)
    · exact absurd hA2' h16
    · refine z_iload_n 20 dX10_usual_19 rfl rfl ?_
      refine z_iconst 21 (v := nI 0) dX10_usual_20 rfl rfl ?_
      refine z_bipush 23 (v := nI 9) dX10_usual_21 rfl rfl ?_
      refine z_cSI3 26 (tX10_in) kX10_in dX10_usual_23 rfl lX10_91 (Nat.le_of_ble_eq_true rfl) ?_
      rintro _ _ ⟨e1, e2⟩
      replace e1 := e1.symm
      replace e2 := e2.symm
      subst e1
      subst e2
      rw [in_k (by decide)]
      refine z_ifb_ne 31 29 dX10_usual_26 (by decide) rfl (fun h26 => ?_) (fun h26 => ?_)
      · refine z_aload_n 32 dX10_usual_31 rfl rfl ?_
        refine z_iload_n 33 dX10_usual_32 rfl rfl ?_
        refine z_cVI1 36 (tX10_isLand (by assumption) (by assumption) (by omega)) kX10_isLand dX10_usual_33 rfl lX10_148 (by first | assumption | rfl) (Nat.le_of_ble_eq_true rfl) ?_
        rintro _ _ ⟨e1, e2⟩
        replace e1 := e1.symm
        replace e2 := e2.symm
        subst e1
        subst e2
        refine z_ifb_ne 45 39 dX10_usual_36 (by decide) rfl (fun h36 => ?_) (fun h36 => ?_)
        · refine z_aload_n 46 dX10_usual_45 rfl rfl ?_
          refine z_iload_n 47 dX10_usual_46 rfl rfl ?_
          refine z_cVI1 50 (tX10_isWord (by assumption) (by assumption)) kX10_isWord dX10_usual_47 rfl lX10_151 (by first | assumption | rfl) (Nat.le_of_ble_eq_true rfl) ?_
          rintro _ _ ⟨e1, e2⟩
          replace e1 := e1.symm
          replace e2 := e2.symm
          subst e1
          subst e2
          refine z_ifb_eq 63 53 dX10_usual_50 (by decide) rfl (fun h50 => ?_) (fun h50 => ?_)
          · refine z_iconst 64 (v := (-1)) dX10_usual_63 rfl rfl ?_
            refine z_ri dX10_usual_64 rfl ?_
            first
              | (rw [hB.2 w hwb p hp]; exact qm0 (e0.trans ((if_neg (fun z => z h36)).trans (if_pos (inN_nI h50 (by omega))))) hX Fr.rf)
              | exact qm0 (e0.trans ((if_neg (fun z => z h36)).trans (if_neg h50))) hX Fr.rf
          · rw [inN_nI' (by omega)] at h50
            have hwb : w < sBw S l := by rw [h36.2]; exact h50
            refine z_aload_n 54 dX10_usual_53 rfl rfl ?_
            refine z_iload_n 55 dX10_usual_54 rfl rfl ?_
            refine z_iload_n 56 dX10_usual_55 rfl rfl ?_
            refine z_iload_n 57 dX10_usual_56 rfl rfl ?_
            refine z_cVI3 60 (tX10_use (by omega) (by omega) (by omega)) kX10_use dX10_usual_57 rfl lX10_154 (by first | assumption | rfl) (Nat.le_of_ble_eq_true rfl) ?_
            rintro _ _ ⟨e1, e2⟩
            replace e1 := e1.symm
            replace e2 := e2.symm
            subst e1
            subst e2
            refine z_goto 64 dX10_usual_60 rfl ?_
            refine z_ri dX10_usual_64 rfl ?_
            first
              | (rw [hB.2 w hwb p hp]; exact qm0 (e0.trans ((if_neg (fun z => z h36)).trans (if_pos (inN_nI h50 (by omega))))) hX Fr.rf)
              | exact qm0 (e0.trans ((if_neg (fun z => z h36)).trans (if_neg h50))) hX Fr.rf
        · refine z_aload_n 40 dX10_usual_39 rfl rfl ?_
          refine z_iconst 41 (v := nI 1) dX10_usual_40 rfl rfl ?_
          refine z_cVI1 44 (tX10_meets (by omega)) kX10_meets dX10_usual_41 rfl lX10_99 (by first | assumption | rfl) (Nat.le_of_ble_eq_true rfl) ?_
          rintro _ _ ⟨e1, e2⟩
          replace e1 := e1.symm
          replace e2 := e2.symm
          subst e1
          subst e2
          refine z_ri dX10_usual_44 rfl ?_
          exact qmf hW (e0.trans (if_pos h36)) (by decide) hX Fr.rf
      · exact absurd hA3' h26
set_option maxRecDepth 20000 in
theorem tX10_about {E : zE} {d : Nat} {σ : zM} {S : sS} {p w : Int32} (hW : WF S) (hX : RM S σ) : Ret E mX10_about (d + 2) [zr E 102, .int p, .int w] σ (qM σ (spAbout S p w)) := by
  have h8 := hW.2.1.1
  by_cases hA : ¬ inN p (sPc S) ∨ ¬ inN w 4
  · refine Ret.of [some (zr E 102), some (.int p), some (.int w)] (by decide +kernel) (Nat.le_of_ble_eq_true rfl) rfl ?_
    refine z_aload_n 1 dX10_about_0 rfl rfl ?_
    refine z_iload_n 2 dX10_about_1 rfl rfl ?_
    refine z_cVI1 5 (tX10_isPlayer (by assumption) (by assumption)) kX10_isPlayer dX10_about_2 rfl lX10_162 (by first | assumption | rfl) (Nat.le_of_ble_eq_true rfl) ?_
    rintro _ _ ⟨e1, e2⟩
    replace e1 := e1.symm
    replace e2 := e2.symm
    subst e1
    subst e2
    refine z_ifb_eq 31 8 dX10_about_5 (by decide) rfl (fun h5 => ?_) (fun h5 => ?_)
    · refine z_iconst 32 (v := (-1)) dX10_about_31 rfl rfl ?_
      refine z_ri dX10_about_32 rfl ?_
      exact qm0 (if_pos hA) hX Fr.rf
    · refine z_iload_n 9 dX10_about_8 rfl rfl ?_
      refine z_iconst 10 (v := nI 0) dX10_about_9 rfl rfl ?_
      refine z_iconst 11 (v := nI 3) dX10_about_10 rfl rfl ?_
      refine z_cSI3 14 (tX10_in) kX10_in dX10_about_11 rfl lX10_91 (Nat.le_of_ble_eq_true rfl) ?_
      rintro _ _ ⟨e1, e2⟩
      replace e1 := e1.symm
      replace e2 := e2.symm
      subst e1
      subst e2
      rw [in_k (by decide)]
      refine z_ifb_eq 31 17 dX10_about_14 (by decide) rfl (fun h14 => ?_) (fun h14 => ?_)
      · refine z_iconst 32 (v := (-1)) dX10_about_31 rfl rfl ?_
        refine z_ri dX10_about_32 rfl ?_
        exact qm0 (if_pos hA) hX Fr.rf
      · exact absurd hA (fun z => z.elim (fun q => q h5) (fun q => q h14))
  have hA1 : inN p (sPc S) := Classical.byContradiction fun q => hA (Or.inl q)
  have hA2 : inN w 4 := Classical.byContradiction fun q => hA (Or.inr q)
  have e0 : spAbout S p w = _ := if_neg hA
  have hA1' := hA1
  have hA2' := hA2
  obtain ⟨p, hp, rfl⟩ := inN_of hA1
  obtain ⟨w, hw, rfl⟩ := inN_of hA2
  rw [nI_clamp (by omega), nI_clamp (by omega)] at e0
  have hP := hX.py hp
  have ht : gi σ 111 (4 * p + w) = nI (plf (sPl S p) w) := by
    obtain ⟨p1, p2, p3, p4⟩ := hP
    match w, hw with
    | 0, _ => exact p1
    | 1, _ => exact p2
    | 2, _ => exact p3
    | 3, _ => exact p4
  refine Ret.of [some (zr E 102), some (.int (nI p)), some (.int (nI w))] (by decide +kernel) (Nat.le_of_ble_eq_true rfl) rfl ?_
  refine z_aload_n 1 dX10_about_0 rfl rfl ?_
  refine z_iload_n 2 dX10_about_1 rfl rfl ?_
  refine z_cVI1 5 (tX10_isPlayer (by assumption) (by assumption)) kX10_isPlayer dX10_about_2 rfl lX10_162 (by first | assumption | rfl) (Nat.le_of_ble_eq_true rfl) ?_
  rintro _ _ ⟨e1, e2⟩
  replace e1 := e1.symm
  replace e2 := e2.symm
  subst e1
  subst e2
  refine z_ifb_eq 31 8 dX10_about_5 (by decide) rfl (fun h5 => ?_) (fun h5 => ?_)
  · exact absurd hA1' h5
  · refine z_iload_n 9 dX10_about_8 rfl rfl ?_
    refine z_iconst 10 (v := nI 0) dX10_about_9 rfl rfl ?_
    refine z_iconst 11 (v := nI 3) dX10_about_10 rfl rfl ?_
    refine z_cSI3 14 (tX10_in) kX10_in dX10_about_11 rfl lX10_91 (Nat.le_of_ble_eq_true rfl) ?_
    rintro _ _ ⟨e1, e2⟩
    replace e1 := e1.symm
    replace e2 := e2.symm
    subst e1
    subst e2
    rw [in_k (by decide)]
    refine z_ifb_eq 31 17 dX10_about_14 (by decide) rfl (fun h14 => ?_) (fun h14 => ?_)
    · exact absurd hA2' h14
    · refine z_aload_n 18 dX10_about_17 rfl rfl ?_
      refine z_aload_n 19 dX10_about_18 rfl rfl ?_
      refine z_iload_n 20 dX10_about_19 rfl rfl ?_
      refine z_iload_n 21 dX10_about_20 rfl rfl ?_
      refine z_cVI2 24 (tX10_tell (by omega) (by omega)) kX10_tell dX10_about_21 rfl lX10_165 (by first | assumption | rfl) (Nat.le_of_ble_eq_true rfl) ?_
      rintro _ _ ⟨e1, e2⟩
      replace e1 := e1.symm
      replace e2 := e2.symm
      subst e1
      subst e2
      rw [ht]
      refine z_iconst 25 (v := nI 1) dX10_about_24 rfl rfl ?_
      refine z_cVI2 28 (tX10_ask) kX10_ask dX10_about_25 rfl lX10_117 (by first | assumption | rfl) (Nat.le_of_ble_eq_true rfl) ?_
      rintro _ _ ⟨e1, e2⟩
      replace e1 := e1.symm
      replace e2 := e2.symm
      subst e1
      subst e2
      refine z_goto 32 dX10_about_28 rfl ?_
      refine z_ri dX10_about_32 rfl ?_
      exact qma hW e0 hX Fr.rf
