/-! common -/
def bs (f : Nat → Bool) : Nat → Nat
  | 0 => 0
  | n + 1 => bs f n ||| (if f n = true then 2 ^ n else 0)
theorem bs_bit (f : Nat → Bool) : ∀ n p, (bs f n).testBit p = (decide (p < n) && f p) := by
  intro n
  induction n with
  | zero => intro p; simp [bs]
  | succ n ih =>
    intro p
    rw [bs, Nat.testBit_or, ih]
    by_cases hp : p = n
    · subst hp
      cases hf : f p <;> simp
    · have h2 : ¬ n = p := fun z => hp z.symm
      have h3 : (p < n + 1) ↔ p < n := ⟨fun z => by omega, fun z => by omega⟩
      cases hf : f n <;> simp [Nat.testBit_two_pow, h2, h3]
theorem bs_and (f g : Nat → Bool) (n : Nat) : bs f n &&& bs g n = bs (fun p => f p && g p) n := by
  apply Nat.eq_of_testBit_eq
  intro i
  rw [Nat.testBit_and, bs_bit, bs_bit, bs_bit]
  cases decide (i < n) <;> simp
theorem bs_xor (f g : Nat → Bool) (n : Nat) : bs f n ^^^ bs g n = bs (fun p => f p != g p) n := by
  apply Nat.eq_of_testBit_eq
  intro i
  rw [Nat.testBit_xor, bs_bit, bs_bit, bs_bit]
  cases decide (i < n) <;> simp
theorem bs_t {f : Nat → Bool} {i : Nat} (h : f i = true) : bs f i ||| 2 ^ i = bs f (i + 1) := by rw [bs, if_pos h]
theorem bs_f {f : Nat → Bool} {i : Nat} (h : f i = false) : bs f i = bs f (i + 1) := by rw [bs, if_neg (by rw [h]; decide), Nat.or_zero]
theorem bs_f' {f : Nat → Bool} {i : Nat} (h : f i = false) : bs f i ||| 0 = bs f (i + 1) := by rw [bs, if_neg (by rw [h]; decide)]
/-- so usual or more -/
def fU2 (u : Nat → Nat) (t : Nat) (p : Nat) : Bool := decide (t ≤ u p)
set_option maxRecDepth 20000 in
theorem tX1_usualSet {E : zE} {d : Nat} {σ : zM} {b bw w t : Nat} {u : Nat → Nat → Nat} (hb : (kd b).1 = 1) (hb1 : kd (b + 1) = (11, 80)) (hB : Bx σ b bw u) (hw : w < 8) (ht : t < 100) (hu : ∀ p, p < 10 → uz bw u w p ≤ 9) : Ret E mX1_usualSet (d + 1) [zr E b, .int (nI w), .int (nI t)] σ (qI fun x τ => x = nI (bs (fU2 (uz bw u w) t) 10) ∧ τ = σ) := by
  refine Ret.of [some (zr E b), some (.int (nI w)), some (.int (nI t)), none, none] (by decide +kernel) (Nat.le_of_ble_eq_true rfl) rfl ?_
  have loop : ∀ i, i ≤ 10 → At E mX1_usualSet (d + 1) (qI fun x τ => x = nI (bs (fU2 (uz bw u w) t) 10) ∧ τ = σ) 5 [some (zr E b), some (.int (nI w)), some (.int (nI t)), some (.int (nI (bs (fU2 (uz bw u w) t) i))), some (.int (nI i))] [] σ := by
    refine z_up (fun i hi ih => ?_)
    by_cases hie : i = 10
    · subst hie
      refine z_iload 7 dX1_usualSet_5 rfl rfl ?_
      refine z_bipush 9 (v := nI 10) dX1_usualSet_7 rfl rfl ?_
      refine z_icmp_ge 36 12 dX1_usualSet_9 (by decide) rfl (fun h9 => ?_) (fun h9 => ?_)
      · (try rw [nI_leI (by omega) (by omega)] at h9)
        refine z_iload_n 37 dX1_usualSet_36 rfl rfl ?_
        refine z_ri dX1_usualSet_37 rfl ?_
        exact ⟨rfl, rfl⟩
      · (try rw [nI_leI (by omega) (by omega)] at h9)
        omega
    · have hu9 := hu i (by omega)
      refine z_iload 7 dX1_usualSet_5 rfl rfl ?_
      refine z_bipush 9 (v := nI 10) dX1_usualSet_7 rfl rfl ?_
      refine z_icmp_ge 36 12 dX1_usualSet_9 (by decide) rfl (fun h9 => ?_) (fun h9 => ?_)
      · (try rw [nI_leI (by omega) (by omega)] at h9)
        omega
      · (try rw [nI_leI (by omega) (by omega)] at h9)
        refine z_aload_n 13 dX1_usualSet_12 rfl rfl ?_
        refine z_iload_n 14 dX1_usualSet_13 rfl rfl ?_
        refine z_iload 16 dX1_usualSet_14 rfl rfl ?_
        refine z_cVI2 19 (tX1_usualOf hb hb1 hB (by omega) (by omega)) kX1_usualOf dX1_usualSet_16 rfl lX1_28 (by first | assumption | rfl) (Nat.le_of_ble_eq_true rfl) ?_
        rintro _ _ ⟨e1, e2⟩
        replace e1 := e1.symm
        replace e2 := e2.symm
        subst e1
        subst e2
        refine z_iload_n 20 dX1_usualSet_19 rfl rfl ?_
        refine z_icmp_lt 30 23 dX1_usualSet_20 (by decide) rfl (fun h20 => ?_) (fun h20 => ?_)
        · (try rw [nI_ltI (by omega) (by omega)] at h20)
          have e : bs (fU2 (uz bw u w) t) i = bs (fU2 (uz bw u w) t) (i + 1) := bs_f (decide_eq_false (by omega))
          rw [e]
          refine zs_iinc_4_5_1 33 rfl dX1_usualSet_30 rfl rfl ?_
          rw [nI_add]
          refine z_goto 5 dX1_usualSet_33 rfl ?_
          exact ih (i + 1) (by omega) (by omega)
        · (try rw [nI_ltI (by omega) (by omega)] at h20)
          have e : bs (fU2 (uz bw u w) t) i ||| 2 ^ i = bs (fU2 (uz bw u w) t) (i + 1) := bs_t (decide_eq_true (by omega))
          refine z_iload_n 24 dX1_usualSet_23 rfl rfl ?_
          refine z_iconst 25 (v := nI 1) dX1_usualSet_24 rfl rfl ?_
          refine z_iload 27 dX1_usualSet_25 rfl rfl ?_
          refine z_ishl 28 dX1_usualSet_27 rfl ?_
          rw [zb_shl (by omega)]
          refine z_ior 29 dX1_usualSet_28 rfl ?_
          rw [zb_or, e]
          refine zs_istore_n_3_5 30 rfl dX1_usualSet_29 rfl rfl ?_
          refine zs_iinc_4_5_1 33 rfl dX1_usualSet_30 rfl rfl ?_
          rw [nI_add]
          refine z_goto 5 dX1_usualSet_33 rfl ?_
          exact ih (i + 1) (by omega) (by omega)
  refine z_iconst 1 (v := nI 0) dX1_usualSet_0 rfl rfl ?_
  refine zs_istore_n_3_5 2 rfl dX1_usualSet_1 rfl rfl ?_
  refine z_iconst 3 (v := nI 0) dX1_usualSet_2 rfl rfl ?_
  refine zs_istore_4_5 5 rfl dX1_usualSet_3 rfl rfl ?_
  exact loop 0 (Nat.zero_le _)
def spCommon (S : sS) (w n : Int32) : Int32 × sS := if ¬ (inN w 8 ∧ nI 1 ≤ n ∧ n ≤ nI 9) then (-1, S) else if ¬ (cnt S 0 ∧ cnt S 1) then sFd S 1 else if inN w (sBw S 0) then sAsk S (nI (bs (fun p => fU2 (sUs S 0 (zx w)) (zx n) p != fU2 (sUs S 1 (zx w)) (zx n) p) 10)) (nI (bs (fun p => fU2 (sUs S 0 (zx w)) (zx n) p && fU2 (sUs S 1 (zx w)) (zx n) p) 10)) else (-1, S)
set_option maxRecDepth 20000 in
theorem tX9_common {E : zE} {d : Nat} {σ : zM} {S : sS} {w n : Int32} (hW : WF S) (hX : RX S σ) : Ret E mX9_common (d + 2) [zr E 0, .int w, .int n] σ (qX σ (spCommon S w n)) := by
  have h8 := bw_le hW (show 0 < 2 by omega)
  by_cases hA : ¬ (inN w 8 ∧ nI 1 ≤ n ∧ n ≤ nI 9)
  · refine Ret.of [some (zr E 0), some (.int w), some (.int n), none, none] (by decide +kernel) (Nat.le_of_ble_eq_true rfl) rfl ?_
    refine z_iload_n 1 dX9_common_0 rfl rfl ?_
    refine z_cSI1 4 (tX9_isEverWord) kX9_isEverWord dX9_common_1 rfl lX9_159 (Nat.le_of_ble_eq_true rfl) ?_
    rintro _ _ ⟨e1, e2⟩
    replace e1 := e1.symm
    replace e2 := e2.symm
    subst e1
    subst e2
    refine z_ifb_eq 18 7 dX9_common_4 (by decide) rfl (fun h4 => ?_) (fun h4 => ?_)
    · refine z_iconst 19 (v := (-1)) dX9_common_18 rfl rfl ?_
      refine z_ri dX9_common_19 rfl ?_
      exact qx0 (if_pos hA) hX Fr.rf
    · refine z_iload_n 8 dX9_common_7 rfl rfl ?_
      refine z_iconst 9 (v := nI 1) dX9_common_8 rfl rfl ?_
      refine z_icmp_lt 18 12 dX9_common_9 (by decide) rfl (fun h9 => ?_) (fun h9 => ?_)
      · refine z_iconst 19 (v := (-1)) dX9_common_18 rfl rfl ?_
        refine z_ri dX9_common_19 rfl ?_
        exact qx0 (if_pos hA) hX Fr.rf
      · refine z_iload_n 13 dX9_common_12 rfl rfl ?_
        refine z_bipush 15 (v := nI 9) dX9_common_13 rfl rfl ?_
        refine z_icmp_le 20 18 dX9_common_15 (by decide) rfl (fun h15 => ?_) (fun h15 => ?_)
        · exact absurd ⟨h4, Int32.not_lt.mp h9, h15⟩ hA
        · refine z_iconst 19 (v := (-1)) dX9_common_18 rfl rfl ?_
          refine z_ri dX9_common_19 rfl ?_
          exact qx0 (if_pos hA) hX Fr.rf
  have e0 : spCommon S w n = _ := if_neg hA
  have hA : inN w 8 ∧ nI 1 ≤ n ∧ n ≤ nI 9 := Classical.byContradiction hA
  have hA1 := hA.1
  obtain ⟨w, hw, rfl⟩ := inN_of hA.1
  obtain ⟨n, hn1, hn9, rfl⟩ := in15 (by decide) (by decide) hA.2
  rw [zx_nI (by omega), zx_nI (by omega)] at e0
  refine Ret.of [some (zr E 0), some (.int (nI w)), some (.int (nI n)), none, none] (by decide +kernel) (Nat.le_of_ble_eq_true rfl) rfl ?_
  by_cases hC : ¬ (cnt S 0 ∧ cnt S 1)
  · rw [if_pos hC] at e0
    refine z_iload_n 1 dX9_common_0 rfl rfl ?_
    refine z_cSI1 4 (tX9_isEverWord) kX9_isEverWord dX9_common_1 rfl lX9_159 (Nat.le_of_ble_eq_true rfl) ?_
    rintro _ _ ⟨e1, e2⟩
    replace e1 := e1.symm
    replace e2 := e2.symm
    subst e1
    subst e2
    refine z_ifb_eq 18 7 dX9_common_4 (by decide) rfl (fun h4 => ?_) (fun h4 => ?_)
    · exact absurd hA1 h4
    · refine z_iload_n 8 dX9_common_7 rfl rfl ?_
      refine z_iconst 9 (v := nI 1) dX9_common_8 rfl rfl ?_
      refine z_icmp_lt 18 12 dX9_common_9 (by decide) rfl (fun h9 => ?_) (fun h9 => ?_)
      · (try rw [nI_ltI (by omega) (by omega)] at h9)
        omega
      · (try rw [nI_ltI (by omega) (by omega)] at h9)
        refine z_iload_n 13 dX9_common_12 rfl rfl ?_
        refine z_bipush 15 (v := nI 9) dX9_common_13 rfl rfl ?_
        refine z_icmp_le 20 18 dX9_common_15 (by decide) rfl (fun h15 => ?_) (fun h15 => ?_)
        · (try rw [nI_leI (by omega) (by omega)] at h15)
          refine z_aload_n 21 dX9_common_20 rfl rfl ?_
          refine z_iconst 22 (v := nI 0) dX9_common_21 rfl rfl ?_
          refine z_cVI1 25 (tX9_boxCounts (by assumption) (by assumption) (by omega)) kX9_boxCounts dX9_common_22 rfl lX9_162 (by first | assumption | rfl) (Nat.le_of_ble_eq_true rfl) ?_
          rintro _ _ ⟨e1, e2⟩
          replace e1 := e1.symm
          replace e2 := e2.symm
          subst e1
          subst e2
          refine z_ifb_eq 36 28 dX9_common_25 (by decide) rfl (fun h25 => ?_) (fun h25 => ?_)
          · refine z_aload_n 37 dX9_common_36 rfl rfl ?_
            refine gX9_39 40 rfl dX9_common_37 rfl ?_
            refine z_iconst 41 (v := nI 1) dX9_common_40 rfl rfl ?_
            refine z_cVI1 44 (tX0_found (by omega) (by omega)) kX0_found dX9_common_41 rfl lX9_87 (by first | assumption | rfl) (Nat.le_of_ble_eq_true rfl) ?_
            rintro _ _ ⟨e1, e2⟩
            replace e1 := e1.symm
            replace e2 := e2.symm
            subst e1
            subst e2
            refine z_ri dX9_common_44 rfl ?_
            exact qxf hW e0 (by decide) hX Fr.rf
          · refine z_aload_n 29 dX9_common_28 rfl rfl ?_
            refine z_iconst 30 (v := nI 1) dX9_common_29 rfl rfl ?_
            refine z_cVI1 33 (tX9_boxCounts (by assumption) (by assumption) (by omega)) kX9_boxCounts dX9_common_30 rfl lX9_162 (by first | assumption | rfl) (Nat.le_of_ble_eq_true rfl) ?_
            rintro _ _ ⟨e1, e2⟩
            replace e1 := e1.symm
            replace e2 := e2.symm
            subst e1
            subst e2
            refine z_ifb_ne 45 36 dX9_common_33 (by decide) rfl (fun h33 => ?_) (fun h33 => ?_)
            · exact absurd ⟨h25, h33⟩ hC
            · refine z_aload_n 37 dX9_common_36 rfl rfl ?_
              refine gX9_39 40 rfl dX9_common_37 rfl ?_
              refine z_iconst 41 (v := nI 1) dX9_common_40 rfl rfl ?_
              refine z_cVI1 44 (tX0_found (by omega) (by omega)) kX0_found dX9_common_41 rfl lX9_87 (by first | assumption | rfl) (Nat.le_of_ble_eq_true rfl) ?_
              rintro _ _ ⟨e1, e2⟩
              replace e1 := e1.symm
              replace e2 := e2.symm
              subst e1
              subst e2
              refine z_ri dX9_common_44 rfl ?_
              exact qxf hW e0 (by decide) hX Fr.rf
        · (try rw [nI_leI (by omega) (by omega)] at h15)
          omega
  · rw [if_neg hC] at e0
    have hC : cnt S 0 ∧ cnt S 1 := Classical.byContradiction hC
    have c1 : sBw S 1 = sBw S 0 := hC.2.2
    have hB0 := hX.bx hW (show 0 < 2 by omega)
    have hB1 := hX.bx hW (show 1 < 2 by omega)
    by_cases hwb : w < sBw S 0
    · rw [if_pos (inN_nI hwb (by omega))] at e0
      have hz0 : uz (sBw S 0) (sUs S 0) w = sUs S 0 w := uz_eq hwb
      have hz1 : uz (sBw S 1) (sUs S 1) w = sUs S 1 w := uz_eq (by omega)
      have hl0 : ∀ p, p < 10 → uz (sBw S 0) (sUs S 0) w p ≤ 9 := fun p hp => uz_le hW (by omega) w p hp
      have hl1 : ∀ p, p < 10 → uz (sBw S 1) (sUs S 1) w p ≤ 9 := fun p hp => uz_le hW (by omega) w p hp
      refine z_iload_n 1 dX9_common_0 rfl rfl ?_
      refine z_cSI1 4 (tX9_isEverWord) kX9_isEverWord dX9_common_1 rfl lX9_159 (Nat.le_of_ble_eq_true rfl) ?_
      rintro _ _ ⟨e1, e2⟩
      replace e1 := e1.symm
      replace e2 := e2.symm
      subst e1
      subst e2
      refine z_ifb_eq 18 7 dX9_common_4 (by decide) rfl (fun h4 => ?_) (fun h4 => ?_)
      · exact absurd hA1 h4
      · refine z_iload_n 8 dX9_common_7 rfl rfl ?_
        refine z_iconst 9 (v := nI 1) dX9_common_8 rfl rfl ?_
        refine z_icmp_lt 18 12 dX9_common_9 (by decide) rfl (fun h9 => ?_) (fun h9 => ?_)
        · (try rw [nI_ltI (by omega) (by omega)] at h9)
          omega
        · (try rw [nI_ltI (by omega) (by omega)] at h9)
          refine z_iload_n 13 dX9_common_12 rfl rfl ?_
          refine z_bipush 15 (v := nI 9) dX9_common_13 rfl rfl ?_
          refine z_icmp_le 20 18 dX9_common_15 (by decide) rfl (fun h15 => ?_) (fun h15 => ?_)
          · (try rw [nI_leI (by omega) (by omega)] at h15)
            refine z_aload_n 21 dX9_common_20 rfl rfl ?_
            refine z_iconst 22 (v := nI 0) dX9_common_21 rfl rfl ?_
            refine z_cVI1 25 (tX9_boxCounts (by assumption) (by assumption) (by omega)) kX9_boxCounts dX9_common_22 rfl lX9_162 (by first | assumption | rfl) (Nat.le_of_ble_eq_true rfl) ?_
            rintro _ _ ⟨e1, e2⟩
            replace e1 := e1.symm
            replace e2 := e2.symm
            subst e1
            subst e2
            refine z_ifb_eq 36 28 dX9_common_25 (by decide) rfl (fun h25 => ?_) (fun h25 => ?_)
            · exact absurd hC.1 h25
            · refine z_aload_n 29 dX9_common_28 rfl rfl ?_
              refine z_iconst 30 (v := nI 1) dX9_common_29 rfl rfl ?_
              refine z_cVI1 33 (tX9_boxCounts (by assumption) (by assumption) (by omega)) kX9_boxCounts dX9_common_30 rfl lX9_162 (by first | assumption | rfl) (Nat.le_of_ble_eq_true rfl) ?_
              rintro _ _ ⟨e1, e2⟩
              replace e1 := e1.symm
              replace e2 := e2.symm
              subst e1
              subst e2
              refine z_ifb_ne 45 36 dX9_common_33 (by decide) rfl (fun h33 => ?_) (fun h33 => ?_)
              · refine z_aload_n 46 dX9_common_45 rfl rfl ?_
                refine z_iload_n 47 dX9_common_46 rfl rfl ?_
                refine z_cVI1 50 (tX9_isWord (by assumption) (by assumption)) kX9_isWord dX9_common_47 rfl lX9_165 (by first | assumption | rfl) (Nat.le_of_ble_eq_true rfl) ?_
                rintro _ _ ⟨e1, e2⟩
                replace e1 := e1.symm
                replace e2 := e2.symm
                subst e1
                subst e2
                refine z_ifb_ne 55 53 dX9_common_50 (by decide) rfl (fun h50 => ?_) (fun h50 => ?_)
                · refine z_aload_n 56 dX9_common_55 rfl rfl ?_
                  refine gX9_20 59 rfl dX9_common_56 rfl ?_
                  refine z_iconst 60 (v := nI 0) dX9_common_59 rfl rfl ?_
                  refine z_aald3 61 dX9_common_60 rfl (by omega) ?_
                  refine z_iload_n 62 dX9_common_61 rfl rfl ?_
                  refine z_iload_n 63 dX9_common_62 rfl rfl ?_
                  refine z_cVI2 66 (tX1_usualSet (b := 44 + 2 * 0) rfl rfl hB0 hw (by omega) hl0) kX1_usualSet dX9_common_63 rfl lX9_315 (by first | assumption | rfl) (Nat.le_of_ble_eq_true rfl) ?_
                  rintro _ _ ⟨e1, e2⟩
                  replace e1 := e1.symm
                  replace e2 := e2.symm
                  subst e1
                  subst e2
                  refine zs_istore_n_3_5 67 rfl dX9_common_66 rfl rfl ?_
                  refine z_aload_n 68 dX9_common_67 rfl rfl ?_
                  refine gX9_20 71 rfl dX9_common_68 rfl ?_
                  refine z_iconst 72 (v := nI 1) dX9_common_71 rfl rfl ?_
                  refine z_aald3 73 dX9_common_72 rfl (by omega) ?_
                  refine z_iload_n 74 dX9_common_73 rfl rfl ?_
                  refine z_iload_n 75 dX9_common_74 rfl rfl ?_
                  refine z_cVI2 78 (tX1_usualSet (b := 44 + 2 * 1) rfl rfl hB1 hw (by omega) hl1) kX1_usualSet dX9_common_75 rfl lX9_315 (by first | assumption | rfl) (Nat.le_of_ble_eq_true rfl) ?_
                  rintro _ _ ⟨e1, e2⟩
                  replace e1 := e1.symm
                  replace e2 := e2.symm
                  subst e1
                  subst e2
                  refine zs_istore_4_5 80 rfl dX9_common_78 rfl rfl ?_
                  refine z_aload_n 81 dX9_common_80 rfl rfl ?_
                  refine gX9_39 84 rfl dX9_common_81 rfl ?_
                  refine z_iload_n 85 dX9_common_84 rfl rfl ?_
                  refine z_iload 87 dX9_common_85 rfl rfl ?_
                  refine z_ixor 88 dX9_common_87 rfl ?_
                  rw [zb_xor, hz0, hz1, bs_xor]
                  refine z_cVI1 91 (tX0_ask) kX0_ask dX9_common_88 rfl lX9_104 (by first | assumption | rfl) (Nat.le_of_ble_eq_true rfl) ?_
                  rintro _ _ ⟨e1, e2⟩
                  replace e1 := e1.symm
                  replace e2 := e2.symm
                  subst e1
                  subst e2
                  refine z_pop 92 dX9_common_91 rfl rfl ?_
                  refine z_iload_n 93 dX9_common_92 rfl rfl ?_
                  refine z_iload 95 dX9_common_93 rfl rfl ?_
                  refine z_iand 96 dX9_common_95 rfl ?_
                  rw [zb_and, bs_and]
                  refine z_ri dX9_common_96 rfl ?_
                  exact qxa hW e0 hX Fr.rf
                · exact absurd (inN_nI hwb (by omega)) h50
              · exact absurd hC.2 h33
          · (try rw [nI_leI (by omega) (by omega)] at h15)
            omega
    · rw [if_neg (fun z => hwb ((inN_nI' (by omega)).mp z))] at e0
      refine z_iload_n 1 dX9_common_0 rfl rfl ?_
      refine z_cSI1 4 (tX9_isEverWord) kX9_isEverWord dX9_common_1 rfl lX9_159 (Nat.le_of_ble_eq_true rfl) ?_
      rintro _ _ ⟨e1, e2⟩
      replace e1 := e1.symm
      replace e2 := e2.symm
      subst e1
      subst e2
      refine z_ifb_eq 18 7 dX9_common_4 (by decide) rfl (fun h4 => ?_) (fun h4 => ?_)
      · exact absurd hA1 h4
      · refine z_iload_n 8 dX9_common_7 rfl rfl ?_
        refine z_iconst 9 (v := nI 1) dX9_common_8 rfl rfl ?_
        refine z_icmp_lt 18 12 dX9_common_9 (by decide) rfl (fun h9 => ?_) (fun h9 => ?_)
        · (try rw [nI_ltI (by omega) (by omega)] at h9)
          omega
        · (try rw [nI_ltI (by omega) (by omega)] at h9)
          refine z_iload_n 13 dX9_common_12 rfl rfl ?_
          refine z_bipush 15 (v := nI 9) dX9_common_13 rfl rfl ?_
          refine z_icmp_le 20 18 dX9_common_15 (by decide) rfl (fun h15 => ?_) (fun h15 => ?_)
          · (try rw [nI_leI (by omega) (by omega)] at h15)
            refine z_aload_n 21 dX9_common_20 rfl rfl ?_
            refine z_iconst 22 (v := nI 0) dX9_common_21 rfl rfl ?_
            refine z_cVI1 25 (tX9_boxCounts (by assumption) (by assumption) (by omega)) kX9_boxCounts dX9_common_22 rfl lX9_162 (by first | assumption | rfl) (Nat.le_of_ble_eq_true rfl) ?_
            rintro _ _ ⟨e1, e2⟩
            replace e1 := e1.symm
            replace e2 := e2.symm
            subst e1
            subst e2
            refine z_ifb_eq 36 28 dX9_common_25 (by decide) rfl (fun h25 => ?_) (fun h25 => ?_)
            · exact absurd hC.1 h25
            · refine z_aload_n 29 dX9_common_28 rfl rfl ?_
              refine z_iconst 30 (v := nI 1) dX9_common_29 rfl rfl ?_
              refine z_cVI1 33 (tX9_boxCounts (by assumption) (by assumption) (by omega)) kX9_boxCounts dX9_common_30 rfl lX9_162 (by first | assumption | rfl) (Nat.le_of_ble_eq_true rfl) ?_
              rintro _ _ ⟨e1, e2⟩
              replace e1 := e1.symm
              replace e2 := e2.symm
              subst e1
              subst e2
              refine z_ifb_ne 45 36 dX9_common_33 (by decide) rfl (fun h33 => ?_) (fun h33 => ?_)
              · refine z_aload_n 46 dX9_common_45 rfl rfl ?_
                refine z_iload_n 47 dX9_common_46 rfl rfl ?_
                refine z_cVI1 50 (tX9_isWord (by assumption) (by assumption)) kX9_isWord dX9_common_47 rfl lX9_165 (by first | assumption | rfl) (Nat.le_of_ble_eq_true rfl) ?_
                rintro _ _ ⟨e1, e2⟩
                replace e1 := e1.symm
                replace e2 := e2.symm
                subst e1
                subst e2
                refine z_ifb_ne 55 53 dX9_common_50 (by decide) rfl (fun h50 => ?_) (fun h50 => ?_)
                · exact absurd ((inN_nI' (by omega)).mp h50) hwb
                · refine z_iconst 54 (v := (-1)) dX9_common_53 rfl rfl ?_
                  refine z_ri dX9_common_54 rfl ?_
                  exact qx0 e0 hX Fr.rf
              · exact absurd hC.2 h33
          · (try rw [nI_leI (by omega) (by omega)] at h15)
            omega
set_option maxRecDepth 20000 in
theorem tX10_common {E : zE} {d : Nat} {σ : zM} {S : sS} {w n : Int32} (hW : WF S) (hX : RM S σ) : Ret E mX10_common (d + 2) [zr E 102, .int w, .int n] σ (qM σ (spCommon S w n)) := by
  have h8 := bw_le hW (show 0 < 2 by omega)
  by_cases hA : ¬ (inN w 8 ∧ nI 1 ≤ n ∧ n ≤ nI 9)
  · refine Ret.of [some (zr E 102), some (.int w), some (.int n), none, none, none, none, none] (by decide +kernel) (Nat.le_of_ble_eq_true rfl) rfl ?_
    refine z_iload_n 1 dX10_common_0 rfl rfl ?_
    refine z_iconst 2 (v := nI 0) dX10_common_1 rfl rfl ?_
    refine z_bipush 4 (v := nI 7) dX10_common_2 rfl rfl ?_
    refine z_cSI3 7 (tX10_in) kX10_in dX10_common_4 rfl lX10_91 (Nat.le_of_ble_eq_true rfl) ?_
    rintro _ _ ⟨e1, e2⟩
    replace e1 := e1.symm
    replace e2 := e2.symm
    subst e1
    subst e2
    rw [in_k (by decide)]
    refine z_ifb_eq 20 10 dX10_common_7 (by decide) rfl (fun h7 => ?_) (fun h7 => ?_)
    · refine z_iconst 21 (v := (-1)) dX10_common_20 rfl rfl ?_
      refine z_ri dX10_common_21 rfl ?_
      exact qm0 (if_pos hA) hX Fr.rf
    · refine z_iload_n 11 dX10_common_10 rfl rfl ?_
      refine z_iconst 12 (v := nI 1) dX10_common_11 rfl rfl ?_
      refine z_bipush 14 (v := nI 9) dX10_common_12 rfl rfl ?_
      refine z_cSI3 17 (tX10_in) kX10_in dX10_common_14 rfl lX10_91 (Nat.le_of_ble_eq_true rfl) ?_
      rintro _ _ ⟨e1, e2⟩
      replace e1 := e1.symm
      replace e2 := e2.symm
      subst e1
      subst e2
      refine z_ifb_ne 22 20 dX10_common_17 (by decide) rfl (fun h17 => ?_) (fun h17 => ?_)
      · exact absurd ⟨h7, h17⟩ hA
      · refine z_iconst 21 (v := (-1)) dX10_common_20 rfl rfl ?_
        refine z_ri dX10_common_21 rfl ?_
        exact qm0 (if_pos hA) hX Fr.rf
  have e0 : spCommon S w n = _ := if_neg hA
  have hA : inN w 8 ∧ nI 1 ≤ n ∧ n ≤ nI 9 := Classical.byContradiction hA
  have hA1 := hA.1
  have hA2 := hA.2
  obtain ⟨w, hw, rfl⟩ := inN_of hA.1
  obtain ⟨n, hn1, hn9, rfl⟩ := in15 (by decide) (by decide) hA.2
  rw [zx_nI (by omega), zx_nI (by omega)] at e0
  refine Ret.of [some (zr E 102), some (.int (nI w)), some (.int (nI n)), none, none, none, none, none] (by decide +kernel) (Nat.le_of_ble_eq_true rfl) rfl ?_
  by_cases hC : ¬ (cnt S 0 ∧ cnt S 1)
  · rw [if_pos hC] at e0
    refine z_iload_n 1 dX10_common_0 rfl rfl ?_
    refine z_iconst 2 (v := nI 0) dX10_common_1 rfl rfl ?_
    refine z_bipush 4 (v := nI 7) dX10_common_2 rfl rfl ?_
    refine z_cSI3 7 (tX10_in) kX10_in dX10_common_4 rfl lX10_91 (Nat.le_of_ble_eq_true rfl) ?_
    rintro _ _ ⟨e1, e2⟩
    replace e1 := e1.symm
    replace e2 := e2.symm
    subst e1
    subst e2
    rw [in_k (by decide)]
    refine z_ifb_eq 20 10 dX10_common_7 (by decide) rfl (fun h7 => ?_) (fun h7 => ?_)
    · exact absurd hA1 h7
    · refine z_iload_n 11 dX10_common_10 rfl rfl ?_
      refine z_iconst 12 (v := nI 1) dX10_common_11 rfl rfl ?_
      refine z_bipush 14 (v := nI 9) dX10_common_12 rfl rfl ?_
      refine z_cSI3 17 (tX10_in) kX10_in dX10_common_14 rfl lX10_91 (Nat.le_of_ble_eq_true rfl) ?_
      rintro _ _ ⟨e1, e2⟩
      replace e1 := e1.symm
      replace e2 := e2.symm
      subst e1
      subst e2
      refine z_ifb_ne 22 20 dX10_common_17 (by decide) rfl (fun h17 => ?_) (fun h17 => ?_)
      · refine z_aload_n 23 dX10_common_22 rfl rfl ?_
        refine z_iconst 24 (v := nI 0) dX10_common_23 rfl rfl ?_
        refine z_cVI1 27 (tX10_isLand (by assumption) (by assumption) (by omega)) kX10_isLand dX10_common_24 rfl lX10_148 (by first | assumption | rfl) (Nat.le_of_ble_eq_true rfl) ?_
        rintro _ _ ⟨e1, e2⟩
        replace e1 := e1.symm
        replace e2 := e2.symm
        subst e1
        subst e2
        refine z_ifb_eq 38 30 dX10_common_27 (by decide) rfl (fun h27 => ?_) (fun h27 => ?_)
        · refine z_aload_n 39 dX10_common_38 rfl rfl ?_
          refine z_iconst 40 (v := nI 1) dX10_common_39 rfl rfl ?_
          refine z_cVI1 43 (tX10_meets (by omega)) kX10_meets dX10_common_40 rfl lX10_99 (by first | assumption | rfl) (Nat.le_of_ble_eq_true rfl) ?_
          rintro _ _ ⟨e1, e2⟩
          replace e1 := e1.symm
          replace e2 := e2.symm
          subst e1
          subst e2
          refine z_ri dX10_common_43 rfl ?_
          exact qmf hW e0 (by decide) hX Fr.rf
        · refine z_aload_n 31 dX10_common_30 rfl rfl ?_
          refine z_iconst 32 (v := nI 1) dX10_common_31 rfl rfl ?_
          refine z_cVI1 35 (tX10_isLand (by assumption) (by assumption) (by omega)) kX10_isLand dX10_common_32 rfl lX10_148 (by first | assumption | rfl) (Nat.le_of_ble_eq_true rfl) ?_
          rintro _ _ ⟨e1, e2⟩
          replace e1 := e1.symm
          replace e2 := e2.symm
          subst e1
          subst e2
          refine z_ifb_ne 44 38 dX10_common_35 (by decide) rfl (fun h35 => ?_) (fun h35 => ?_)
          · exact absurd ⟨h27, h35⟩ hC
          · refine z_aload_n 39 dX10_common_38 rfl rfl ?_
            refine z_iconst 40 (v := nI 1) dX10_common_39 rfl rfl ?_
            refine z_cVI1 43 (tX10_meets (by omega)) kX10_meets dX10_common_40 rfl lX10_99 (by first | assumption | rfl) (Nat.le_of_ble_eq_true rfl) ?_
            rintro _ _ ⟨e1, e2⟩
            replace e1 := e1.symm
            replace e2 := e2.symm
            subst e1
            subst e2
            refine z_ri dX10_common_43 rfl ?_
            exact qmf hW e0 (by decide) hX Fr.rf
      · exact absurd hA2 h17
  · rw [if_neg hC] at e0
    have hC : cnt S 0 ∧ cnt S 1 := Classical.byContradiction hC
    have c1 : sBw S 1 = sBw S 0 := hC.2.2
    by_cases hwb : w < sBw S 0
    · rw [if_pos (inN_nI hwb (by omega))] at e0
      have hm0 : ∀ p, p < 10 → gi σ 110 (80 * 0 + 10 * w + p) = nI (sUs S 0 w p) := fun p hp => (hX.2.2.1 0 (by omega)).2 w hwb p hp
      have hm1 : ∀ p, p < 10 → gi σ 110 (80 * 1 + 10 * w + p) = nI (sUs S 1 w p) := fun p hp => (hX.2.2.1 1 (by omega)).2 w (by show w < sBw S 1; omega) p hp
      have loop : ∀ i, i ≤ 10 → At E mX10_common (d + 2) (qM σ (spCommon S (nI w) (nI n))) 62 [some (zr E 102), some (.int (nI w)), some (.int (nI n)), some (.int (nI (bs (fun p => fU2 (sUs S 0 w) n p && fU2 (sUs S 1 w) n p) i))), some (.int (nI (bs (fun p => fU2 (sUs S 0 w) n p != fU2 (sUs S 1 w) n p) i))), some (.int (nI i)), none, none] [] σ := by
        refine z_up (fun i hi ih => ?_)
        by_cases hie : i = 10
        · subst hie
          refine z_iload 64 dX10_common_62 rfl rfl ?_
          refine z_bipush 66 (v := nI 10) dX10_common_64 rfl rfl ?_
          refine z_icmp_ge 154 69 dX10_common_66 (by decide) rfl (fun h66 => ?_) (fun h66 => ?_)
          · (try rw [nI_leI (by omega) (by omega)] at h66)
            refine z_aload_n 155 dX10_common_154 rfl rfl ?_
            refine z_iload 157 dX10_common_155 rfl rfl ?_
            refine z_iload_n 158 dX10_common_157 rfl rfl ?_
            refine z_cVI2 161 (tX10_ask) kX10_ask dX10_common_158 rfl lX10_117 (by first | assumption | rfl) (Nat.le_of_ble_eq_true rfl) ?_
            rintro _ _ ⟨e1, e2⟩
            replace e1 := e1.symm
            replace e2 := e2.symm
            subst e1
            subst e2
            refine z_ri dX10_common_161 rfl ?_
            exact qma hW e0 hX Fr.rf
          · (try rw [nI_leI (by omega) (by omega)] at h66)
            omega
        · have hi10 : i < 10 := by omega
          have hu0 := ((hW.1 0 (by omega)).2 w hwb).1 i hi10
          have hu1 := ((hW.1 1 (by omega)).2 w (by omega)).1 i hi10
          have a1 := hm0 i hi10
          have a2 := hm1 i hi10
          have f0 : ∀ b, decide (n ≤ sUs S 0 w i) = b → fU2 (sUs S 0 w) n i = b := fun _ h => h
          have f1 : ∀ b, decide (n ≤ sUs S 1 w i) = b → fU2 (sUs S 1 w) n i = b := fun _ h => h
          have hih := ih (i + 1) (by omega) (by omega)
          refine z_iload 64 dX10_common_62 rfl rfl ?_
          refine z_bipush 66 (v := nI 10) dX10_common_64 rfl rfl ?_
          refine z_icmp_ge 154 69 dX10_common_66 (by decide) rfl (fun h66 => ?_) (fun h66 => ?_)
          · (try rw [nI_leI (by omega) (by omega)] at h66)
            omega
          · (try rw [nI_leI (by omega) (by omega)] at h66)
            refine z_aload_n 70 dX10_common_69 rfl rfl ?_
            refine z_iconst 71 (v := nI 0) dX10_common_70 rfl rfl ?_
            refine z_iload_n 72 dX10_common_71 rfl rfl ?_
            refine z_iload 74 dX10_common_72 rfl rfl ?_
            refine z_cVI3 77 (tX10_use (by omega) (by omega) (by omega)) kX10_use dX10_common_74 rfl lX10_154 (by first | assumption | rfl) (Nat.le_of_ble_eq_true rfl) ?_
            rintro _ _ ⟨e1, e2⟩
            replace e1 := e1.symm
            replace e2 := e2.symm
            subst e1
            subst e2
            rw [a1]
            refine z_iload_n 78 dX10_common_77 rfl rfl ?_
            refine z_icmp_lt 85 81 dX10_common_78 (by decide) rfl (fun h78 => ?_) (fun h78 => ?_)
            · (try rw [nI_ltI (by omega) (by omega)] at h78)
              have g0 := f0 _ (decide_eq_false (by omega))
              refine z_iconst 86 (v := nI 0) dX10_common_85 rfl rfl ?_
              refine zs_istore_6_8 88 rfl dX10_common_86 rfl rfl ?_
              refine z_aload_n 89 dX10_common_88 rfl rfl ?_
              refine z_iconst 90 (v := nI 1) dX10_common_89 rfl rfl ?_
              refine z_iload_n 91 dX10_common_90 rfl rfl ?_
              refine z_iload 93 dX10_common_91 rfl rfl ?_
              refine z_cVI3 96 (tX10_use (by omega) (by omega) (by omega)) kX10_use dX10_common_93 rfl lX10_154 (by first | assumption | rfl) (Nat.le_of_ble_eq_true rfl) ?_
              rintro _ _ ⟨e1, e2⟩
              replace e1 := e1.symm
              replace e2 := e2.symm
              subst e1
              subst e2
              rw [a2]
              refine z_iload_n 97 dX10_common_96 rfl rfl ?_
              refine z_icmp_lt 104 100 dX10_common_97 (by decide) rfl (fun h97 => ?_) (fun h97 => ?_)
              · (try rw [nI_ltI (by omega) (by omega)] at h97)
                have g1 := f1 _ (decide_eq_false (by omega))
                refine z_iconst 105 (v := nI 0) dX10_common_104 rfl rfl ?_
                refine zs_istore_7_8 107 rfl dX10_common_105 rfl rfl ?_
                refine z_iload_n 108 dX10_common_107 rfl rfl ?_
                refine z_iload 110 dX10_common_108 rfl rfl ?_
                refine z_if_eq 125 113 dX10_common_110 (by decide) rfl (fun h110 => ?_) (fun h110 => ?_)
                · refine z_iconst 126 (v := nI 0) dX10_common_125 rfl rfl ?_
                  refine z_ior 127 dX10_common_126 rfl ?_
                  rw [zb_or]
                  refine zs_istore_n_3_8 128 rfl dX10_common_127 rfl rfl ?_
                  refine z_iload 130 dX10_common_128 rfl rfl ?_
                  refine z_iload 132 dX10_common_130 rfl rfl ?_
                  refine z_iload 134 dX10_common_132 rfl rfl ?_
                  refine z_icmp_eq 144 137 dX10_common_134 (by decide) rfl (fun h134 => ?_) (fun h134 => ?_)
                  · refine z_iconst 145 (v := nI 0) dX10_common_144 rfl rfl ?_
                    refine z_ior 146 dX10_common_145 rfl ?_
                    rw [zb_or]
                    refine zs_istore_4_8 148 rfl dX10_common_146 rfl rfl ?_
                    refine zs_iinc_5_8_1 151 rfl dX10_common_148 rfl rfl ?_
                    rw [nI_add]
                    refine z_goto 62 dX10_common_151 rfl ?_
                    first
                      | exact absurd h110 (by decide)
                      | exact absurd h115 (by decide)
                      | exact absurd h134 (by decide)
                      | (have z3 : (fun p => fU2 (sUs S 0 w) n p && fU2 (sUs S 1 w) n p) i = false := by (show (fU2 (sUs S 0 w) n i && fU2 (sUs S 1 w) n i) = false; rw [g0, g1]; rfl)
                         have z4 : (fun p => fU2 (sUs S 0 w) n p != fU2 (sUs S 1 w) n p) i = false := by (show (fU2 (sUs S 0 w) n i != fU2 (sUs S 1 w) n i) = false; rw [g0, g1]; rfl)
                         rw [bs_f' z3, bs_f' z4]
                         exact zf_6_8 (zf_7_8 hih))
                      | (have z3 : (fun p => fU2 (sUs S 0 w) n p && fU2 (sUs S 1 w) n p) i = true := by (show (fU2 (sUs S 0 w) n i && fU2 (sUs S 1 w) n i) = true; rw [g0, g1]; rfl)
                         have z4 : (fun p => fU2 (sUs S 0 w) n p != fU2 (sUs S 1 w) n p) i = false := by (show (fU2 (sUs S 0 w) n i != fU2 (sUs S 1 w) n i) = false; rw [g0, g1]; rfl)
                         rw [bs_t z3, bs_f' z4]
                         exact zf_6_8 (zf_7_8 hih))
                      | (have z3 : (fun p => fU2 (sUs S 0 w) n p && fU2 (sUs S 1 w) n p) i = false := by (show (fU2 (sUs S 0 w) n i && fU2 (sUs S 1 w) n i) = false; rw [g0, g1]; rfl)
                         have z4 : (fun p => fU2 (sUs S 0 w) n p != fU2 (sUs S 1 w) n p) i = true := by (show (fU2 (sUs S 0 w) n i != fU2 (sUs S 1 w) n i) = true; rw [g0, g1]; rfl)
                         rw [bs_f' z3, bs_t z4]
                         exact zf_6_8 (zf_7_8 hih))
                  · refine z_iconst 138 (v := nI 1) dX10_common_137 rfl rfl ?_
                    refine z_iload 140 dX10_common_138 rfl rfl ?_
                    refine z_ishl 141 dX10_common_140 rfl ?_
                    rw [zb_shl (by omega)]
                    refine z_goto 145 dX10_common_141 rfl ?_
                    refine z_ior 146 dX10_common_145 rfl ?_
                    rw [zb_or]
                    refine zs_istore_4_8 148 rfl dX10_common_146 rfl rfl ?_
                    refine zs_iinc_5_8_1 151 rfl dX10_common_148 rfl rfl ?_
                    rw [nI_add]
                    refine z_goto 62 dX10_common_151 rfl ?_
                    first
                      | exact absurd h110 (by decide)
                      | exact absurd h115 (by decide)
                      | exact absurd h134 (by decide)
                      | (have z3 : (fun p => fU2 (sUs S 0 w) n p && fU2 (sUs S 1 w) n p) i = false := by (show (fU2 (sUs S 0 w) n i && fU2 (sUs S 1 w) n i) = false; rw [g0, g1]; rfl)
                         have z4 : (fun p => fU2 (sUs S 0 w) n p != fU2 (sUs S 1 w) n p) i = false := by (show (fU2 (sUs S 0 w) n i != fU2 (sUs S 1 w) n i) = false; rw [g0, g1]; rfl)
                         rw [bs_f' z3, bs_f' z4]
                         exact zf_6_8 (zf_7_8 hih))
                      | (have z3 : (fun p => fU2 (sUs S 0 w) n p && fU2 (sUs S 1 w) n p) i = true := by (show (fU2 (sUs S 0 w) n i && fU2 (sUs S 1 w) n i) = true; rw [g0, g1]; rfl)
                         have z4 : (fun p => fU2 (sUs S 0 w) n p != fU2 (sUs S 1 w) n p) i = false := by (show (fU2 (sUs S 0 w) n i != fU2 (sUs S 1 w) n i) = false; rw [g0, g1]; rfl)
                         rw [bs_t z3, bs_f' z4]
                         exact zf_6_8 (zf_7_8 hih))
                      | (have z3 : (fun p => fU2 (sUs S 0 w) n p && fU2 (sUs S 1 w) n p) i = false := by (show (fU2 (sUs S 0 w) n i && fU2 (sUs S 1 w) n i) = false; rw [g0, g1]; rfl)
                         have z4 : (fun p => fU2 (sUs S 0 w) n p != fU2 (sUs S 1 w) n p) i = true := by (show (fU2 (sUs S 0 w) n i != fU2 (sUs S 1 w) n i) = true; rw [g0, g1]; rfl)
                         rw [bs_f' z3, bs_t z4]
                         exact zf_6_8 (zf_7_8 hih))
                · refine z_iload 115 dX10_common_113 rfl rfl ?_
                  refine z_if_eq 125 118 dX10_common_115 (by decide) rfl (fun h115 => ?_) (fun h115 => ?_)
                  · refine z_iconst 126 (v := nI 0) dX10_common_125 rfl rfl ?_
                    refine z_ior 127 dX10_common_126 rfl ?_
                    rw [zb_or]
                    refine zs_istore_n_3_8 128 rfl dX10_common_127 rfl rfl ?_
                    refine z_iload 130 dX10_common_128 rfl rfl ?_
                    refine z_iload 132 dX10_common_130 rfl rfl ?_
                    refine z_iload 134 dX10_common_132 rfl rfl ?_
                    refine z_icmp_eq 144 137 dX10_common_134 (by decide) rfl (fun h134 => ?_) (fun h134 => ?_)
                    · refine z_iconst 145 (v := nI 0) dX10_common_144 rfl rfl ?_
                      refine z_ior 146 dX10_common_145 rfl ?_
                      rw [zb_or]
                      refine zs_istore_4_8 148 rfl dX10_common_146 rfl rfl ?_
                      refine zs_iinc_5_8_1 151 rfl dX10_common_148 rfl rfl ?_
                      rw [nI_add]
                      refine z_goto 62 dX10_common_151 rfl ?_
                      first
                        | exact absurd h110 (by decide)
                        | exact absurd h115 (by decide)
                        | exact absurd h134 (by decide)
                        | (have z3 : (fun p => fU2 (sUs S 0 w) n p && fU2 (sUs S 1 w) n p) i = false := by (show (fU2 (sUs S 0 w) n i && fU2 (sUs S 1 w) n i) = false; rw [g0, g1]; rfl)
                           have z4 : (fun p => fU2 (sUs S 0 w) n p != fU2 (sUs S 1 w) n p) i = false := by (show (fU2 (sUs S 0 w) n i != fU2 (sUs S 1 w) n i) = false; rw [g0, g1]; rfl)
                           rw [bs_f' z3, bs_f' z4]
                           exact zf_6_8 (zf_7_8 hih))
                        | (have z3 : (fun p => fU2 (sUs S 0 w) n p && fU2 (sUs S 1 w) n p) i = true := by (show (fU2 (sUs S 0 w) n i && fU2 (sUs S 1 w) n i) = true; rw [g0, g1]; rfl)
                           have z4 : (fun p => fU2 (sUs S 0 w) n p != fU2 (sUs S 1 w) n p) i = false := by (show (fU2 (sUs S 0 w) n i != fU2 (sUs S 1 w) n i) = false; rw [g0, g1]; rfl)
                           rw [bs_t z3, bs_f' z4]
                           exact zf_6_8 (zf_7_8 hih))
                        | (have z3 : (fun p => fU2 (sUs S 0 w) n p && fU2 (sUs S 1 w) n p) i = false := by (show (fU2 (sUs S 0 w) n i && fU2 (sUs S 1 w) n i) = false; rw [g0, g1]; rfl)
                           have z4 : (fun p => fU2 (sUs S 0 w) n p != fU2 (sUs S 1 w) n p) i = true := by (show (fU2 (sUs S 0 w) n i != fU2 (sUs S 1 w) n i) = true; rw [g0, g1]; rfl)
                           rw [bs_f' z3, bs_t z4]
                           exact zf_6_8 (zf_7_8 hih))
                    · refine z_iconst 138 (v := nI 1) dX10_common_137 rfl rfl ?_
                      refine z_iload 140 dX10_common_138 rfl rfl ?_
                      refine z_ishl 141 dX10_common_140 rfl ?_
                      rw [zb_shl (by omega)]
                      refine z_goto 145 dX10_common_141 rfl ?_
                      refine z_ior 146 dX10_common_145 rfl ?_
                      rw [zb_or]
                      refine zs_istore_4_8 148 rfl dX10_common_146 rfl rfl ?_
                      refine zs_iinc_5_8_1 151 rfl dX10_common_148 rfl rfl ?_
                      rw [nI_add]
                      refine z_goto 62 dX10_common_151 rfl ?_
                      first
                        | exact absurd h110 (by decide)
                        | exact absurd h115 (by decide)
                        | exact absurd h134 (by decide)
                        | (have z3 : (fun p => fU2 (sUs S 0 w) n p && fU2 (sUs S 1 w) n p) i = false := by (show (fU2 (sUs S 0 w) n i && fU2 (sUs S 1 w) n i) = false; rw [g0, g1]; rfl)
                           have z4 : (fun p => fU2 (sUs S 0 w) n p != fU2 (sUs S 1 w) n p) i = false := by (show (fU2 (sUs S 0 w) n i != fU2 (sUs S 1 w) n i) = false; rw [g0, g1]; rfl)
                           rw [bs_f' z3, bs_f' z4]
                           exact zf_6_8 (zf_7_8 hih))
                        | (have z3 : (fun p => fU2 (sUs S 0 w) n p && fU2 (sUs S 1 w) n p) i = true := by (show (fU2 (sUs S 0 w) n i && fU2 (sUs S 1 w) n i) = true; rw [g0, g1]; rfl)
                           have z4 : (fun p => fU2 (sUs S 0 w) n p != fU2 (sUs S 1 w) n p) i = false := by (show (fU2 (sUs S 0 w) n i != fU2 (sUs S 1 w) n i) = false; rw [g0, g1]; rfl)
                           rw [bs_t z3, bs_f' z4]
                           exact zf_6_8 (zf_7_8 hih))
                        | (have z3 : (fun p => fU2 (sUs S 0 w) n p && fU2 (sUs S 1 w) n p) i = false := by (show (fU2 (sUs S 0 w) n i && fU2 (sUs S 1 w) n i) = false; rw [g0, g1]; rfl)
                           have z4 : (fun p => fU2 (sUs S 0 w) n p != fU2 (sUs S 1 w) n p) i = true := by (show (fU2 (sUs S 0 w) n i != fU2 (sUs S 1 w) n i) = true; rw [g0, g1]; rfl)
                           rw [bs_f' z3, bs_t z4]
                           exact zf_6_8 (zf_7_8 hih))
                  · refine z_iconst 119 (v := nI 1) dX10_common_118 rfl rfl ?_
                    refine z_iload 121 dX10_common_119 rfl rfl ?_
                    refine z_ishl 122 dX10_common_121 rfl ?_
                    rw [zb_shl (by omega)]
                    refine z_goto 126 dX10_common_122 rfl ?_
                    refine z_ior 127 dX10_common_126 rfl ?_
                    rw [zb_or]
                    refine zs_istore_n_3_8 128 rfl dX10_common_127 rfl rfl ?_
                    refine z_iload 130 dX10_common_128 rfl rfl ?_
                    refine z_iload 132 dX10_common_130 rfl rfl ?_
                    refine z_iload 134 dX10_common_132 rfl rfl ?_
                    refine z_icmp_eq 144 137 dX10_common_134 (by decide) rfl (fun h134 => ?_) (fun h134 => ?_)
                    · refine z_iconst 145 (v := nI 0) dX10_common_144 rfl rfl ?_
                      refine z_ior 146 dX10_common_145 rfl ?_
                      rw [zb_or]
                      refine zs_istore_4_8 148 rfl dX10_common_146 rfl rfl ?_
                      refine zs_iinc_5_8_1 151 rfl dX10_common_148 rfl rfl ?_
                      rw [nI_add]
                      refine z_goto 62 dX10_common_151 rfl ?_
                      first
                        | exact absurd h110 (by decide)
                        | exact absurd h115 (by decide)
                        | exact absurd h134 (by decide)
                        | (have z3 : (fun p => fU2 (sUs S 0 w) n p && fU2 (sUs S 1 w) n p) i = false := by (show (fU2 (sUs S 0 w) n i && fU2 (sUs S 1 w) n i) = false; rw [g0, g1]; rfl)
                           have z4 : (fun p => fU2 (sUs S 0 w) n p != fU2 (sUs S 1 w) n p) i = false := by (show (fU2 (sUs S 0 w) n i != fU2 (sUs S 1 w) n i) = false; rw [g0, g1]; rfl)
                           rw [bs_f' z3, bs_f' z4]
                           exact zf_6_8 (zf_7_8 hih))
                        | (have z3 : (fun p => fU2 (sUs S 0 w) n p && fU2 (sUs S 1 w) n p) i = true := by (show (fU2 (sUs S 0 w) n i && fU2 (sUs S 1 w) n i) = true; rw [g0, g1]; rfl)
                           have z4 : (fun p => fU2 (sUs S 0 w) n p != fU2 (sUs S 1 w) n p) i = false := by (show (fU2 (sUs S 0 w) n i != fU2 (sUs S 1 w) n i) = false; rw [g0, g1]; rfl)
                           rw [bs_t z3, bs_f' z4]
                           exact zf_6_8 (zf_7_8 hih))
                        | (have z3 : (fun p => fU2 (sUs S 0 w) n p && fU2 (sUs S 1 w) n p) i = false := by (show (fU2 (sUs S 0 w) n i && fU2 (sUs S 1 w) n i) = false; rw [g0, g1]; rfl)
                           have z4 : (fun p => fU2 (sUs S 0 w) n p != fU2 (sUs S 1 w) n p) i = true := by (show (fU2 (sUs S 0 w) n i != fU2 (sUs S 1 w) n i) = true; rw [g0, g1]; rfl)
                           rw [bs_f' z3, bs_t z4]
                           exact zf_6_8 (zf_7_8 hih))
                    · refine z_iconst 138 (v := nI 1) dX10_common_137 rfl rfl ?_
                      refine z_iload 140 dX10_common_138 rfl rfl ?_
                      refine z_ishl 141 dX10_common_140 rfl ?_
                      rw [zb_shl (by omega)]
                      refine z_goto 145 dX10_common_141 rfl ?_
                      refine z_ior 146 dX10_common_145 rfl ?_
                      rw [zb_or]
                      refine zs_istore_4_8 148 rfl dX10_common_146 rfl rfl ?_
                      refine zs_iinc_5_8_1 151 rfl dX10_common_148 rfl rfl ?_
                      rw [nI_add]
                      refine z_goto 62 dX10_common_151 rfl ?_
                      first
                        | exact absurd h110 (by decide)
                        | exact absurd h115 (by decide)
                        | exact absurd h134 (by decide)
                        | (have z3 : (fun p => fU2 (sUs S 0 w) n p && fU2 (sUs S 1 w) n p) i = false := by (show (fU2 (sUs S 0 w) n i && fU2 (sUs S 1 w) n i) = false; rw [g0, g1]; rfl)
                           have z4 : (fun p => fU2 (sUs S 0 w) n p != fU2 (sUs S 1 w) n p) i = false := by (show (fU2 (sUs S 0 w) n i != fU2 (sUs S 1 w) n i) = false; rw [g0, g1]; rfl)
                           rw [bs_f' z3, bs_f' z4]
                           exact zf_6_8 (zf_7_8 hih))
                        | (have z3 : (fun p => fU2 (sUs S 0 w) n p && fU2 (sUs S 1 w) n p) i = true := by (show (fU2 (sUs S 0 w) n i && fU2 (sUs S 1 w) n i) = true; rw [g0, g1]; rfl)
                           have z4 : (fun p => fU2 (sUs S 0 w) n p != fU2 (sUs S 1 w) n p) i = false := by (show (fU2 (sUs S 0 w) n i != fU2 (sUs S 1 w) n i) = false; rw [g0, g1]; rfl)
                           rw [bs_t z3, bs_f' z4]
                           exact zf_6_8 (zf_7_8 hih))
                        | (have z3 : (fun p => fU2 (sUs S 0 w) n p && fU2 (sUs S 1 w) n p) i = false := by (show (fU2 (sUs S 0 w) n i && fU2 (sUs S 1 w) n i) = false; rw [g0, g1]; rfl)
                           have z4 : (fun p => fU2 (sUs S 0 w) n p != fU2 (sUs S 1 w) n p) i = true := by (show (fU2 (sUs S 0 w) n i != fU2 (sUs S 1 w) n i) = true; rw [g0, g1]; rfl)
                           rw [bs_f' z3, bs_t z4]
                           exact zf_6_8 (zf_7_8 hih))
              · (try rw [nI_ltI (by omega) (by omega)] at h97)
                have g1 := f1 _ (decide_eq_true (by omega))
                refine z_iconst 101 (v := nI 1) dX10_common_100 rfl rfl ?_
                refine z_goto 105 dX10_common_101 rfl ?_
                refine zs_istore_7_8 107 rfl dX10_common_105 rfl rfl ?_
                refine z_iload_n 108 dX10_common_107 rfl rfl ?_
                refine z_iload 110 dX10_common_108 rfl rfl ?_
                refine z_if_eq 125 113 dX10_common_110 (by decide) rfl (fun h110 => ?_) (fun h110 => ?_)
                · refine z_iconst 126 (v := nI 0) dX10_common_125 rfl rfl ?_
                  refine z_ior 127 dX10_common_126 rfl ?_
                  rw [zb_or]
                  refine zs_istore_n_3_8 128 rfl dX10_common_127 rfl rfl ?_
                  refine z_iload 130 dX10_common_128 rfl rfl ?_
                  refine z_iload 132 dX10_common_130 rfl rfl ?_
                  refine z_iload 134 dX10_common_132 rfl rfl ?_
                  refine z_icmp_eq 144 137 dX10_common_134 (by decide) rfl (fun h134 => ?_) (fun h134 => ?_)
                  · refine z_iconst 145 (v := nI 0) dX10_common_144 rfl rfl ?_
                    refine z_ior 146 dX10_common_145 rfl ?_
                    rw [zb_or]
                    refine zs_istore_4_8 148 rfl dX10_common_146 rfl rfl ?_
                    refine zs_iinc_5_8_1 151 rfl dX10_common_148 rfl rfl ?_
                    rw [nI_add]
                    refine z_goto 62 dX10_common_151 rfl ?_
                    first
                      | exact absurd h110 (by decide)
                      | exact absurd h115 (by decide)
                      | exact absurd h134 (by decide)
                      | (have z3 : (fun p => fU2 (sUs S 0 w) n p && fU2 (sUs S 1 w) n p) i = false := by (show (fU2 (sUs S 0 w) n i && fU2 (sUs S 1 w) n i) = false; rw [g0, g1]; rfl)
                         have z4 : (fun p => fU2 (sUs S 0 w) n p != fU2 (sUs S 1 w) n p) i = false := by (show (fU2 (sUs S 0 w) n i != fU2 (sUs S 1 w) n i) = false; rw [g0, g1]; rfl)
                         rw [bs_f' z3, bs_f' z4]
                         exact zf_6_8 (zf_7_8 hih))
                      | (have z3 : (fun p => fU2 (sUs S 0 w) n p && fU2 (sUs S 1 w) n p) i = true := by (show (fU2 (sUs S 0 w) n i && fU2 (sUs S 1 w) n i) = true; rw [g0, g1]; rfl)
                         have z4 : (fun p => fU2 (sUs S 0 w) n p != fU2 (sUs S 1 w) n p) i = false := by (show (fU2 (sUs S 0 w) n i != fU2 (sUs S 1 w) n i) = false; rw [g0, g1]; rfl)
                         rw [bs_t z3, bs_f' z4]
                         exact zf_6_8 (zf_7_8 hih))
                      | (have z3 : (fun p => fU2 (sUs S 0 w) n p && fU2 (sUs S 1 w) n p) i = false := by (show (fU2 (sUs S 0 w) n i && fU2 (sUs S 1 w) n i) = false; rw [g0, g1]; rfl)
                         have z4 : (fun p => fU2 (sUs S 0 w) n p != fU2 (sUs S 1 w) n p) i = true := by (show (fU2 (sUs S 0 w) n i != fU2 (sUs S 1 w) n i) = true; rw [g0, g1]; rfl)
                         rw [bs_f' z3, bs_t z4]
                         exact zf_6_8 (zf_7_8 hih))
                  · refine z_iconst 138 (v := nI 1) dX10_common_137 rfl rfl ?_
                    refine z_iload 140 dX10_common_138 rfl rfl ?_
                    refine z_ishl 141 dX10_common_140 rfl ?_
                    rw [zb_shl (by omega)]
                    refine z_goto 145 dX10_common_141 rfl ?_
                    refine z_ior 146 dX10_common_145 rfl ?_
                    rw [zb_or]
                    refine zs_istore_4_8 148 rfl dX10_common_146 rfl rfl ?_
                    refine zs_iinc_5_8_1 151 rfl dX10_common_148 rfl rfl ?_
                    rw [nI_add]
                    refine z_goto 62 dX10_common_151 rfl ?_
                    first
                      | exact absurd h110 (by decide)
                      | exact absurd h115 (by decide)
                      | exact absurd h134 (by decide)
                      | (have z3 : (fun p => fU2 (sUs S 0 w) n p && fU2 (sUs S 1 w) n p) i = false := by (show (fU2 (sUs S 0 w) n i && fU2 (sUs S 1 w) n i) = false; rw [g0, g1]; rfl)
                         have z4 : (fun p => fU2 (sUs S 0 w) n p != fU2 (sUs S 1 w) n p) i = false := by (show (fU2 (sUs S 0 w) n i != fU2 (sUs S 1 w) n i) = false; rw [g0, g1]; rfl)
                         rw [bs_f' z3, bs_f' z4]
                         exact zf_6_8 (zf_7_8 hih))
                      | (have z3 : (fun p => fU2 (sUs S 0 w) n p && fU2 (sUs S 1 w) n p) i = true := by (show (fU2 (sUs S 0 w) n i && fU2 (sUs S 1 w) n i) = true; rw [g0, g1]; rfl)
                         have z4 : (fun p => fU2 (sUs S 0 w) n p != fU2 (sUs S 1 w) n p) i = false := by (show (fU2 (sUs S 0 w) n i != fU2 (sUs S 1 w) n i) = false; rw [g0, g1]; rfl)
                         rw [bs_t z3, bs_f' z4]
                         exact zf_6_8 (zf_7_8 hih))
                      | (have z3 : (fun p => fU2 (sUs S 0 w) n p && fU2 (sUs S 1 w) n p) i = false := by (show (fU2 (sUs S 0 w) n i && fU2 (sUs S 1 w) n i) = false; rw [g0, g1]; rfl)
                         have z4 : (fun p => fU2 (sUs S 0 w) n p != fU2 (sUs S 1 w) n p) i = true := by (show (fU2 (sUs S 0 w) n i != fU2 (sUs S 1 w) n i) = true; rw [g0, g1]; rfl)
                         rw [bs_f' z3, bs_t z4]
                         exact zf_6_8 (zf_7_8 hih))
                · refine z_iload 115 dX10_common_113 rfl rfl ?_
                  refine z_if_eq 125 118 dX10_common_115 (by decide) rfl (fun h115 => ?_) (fun h115 => ?_)
                  · refine z_iconst 126 (v := nI 0) dX10_common_125 rfl rfl ?_
                    refine z_ior 127 dX10_common_126 rfl ?_
                    rw [zb_or]
                    refine zs_istore_n_3_8 128 rfl dX10_common_127 rfl rfl ?_
                    refine z_iload 130 dX10_common_128 rfl rfl ?_
                    refine z_iload 132 dX10_common_130 rfl rfl ?_
                    refine z_iload 134 dX10_common_132 rfl rfl ?_
                    refine z_icmp_eq 144 137 dX10_common_134 (by decide) rfl (fun h134 => ?_) (fun h134 => ?_)
                    · refine z_iconst 145 (v := nI 0) dX10_common_144 rfl rfl ?_
                      refine z_ior 146 dX10_common_145 rfl ?_
                      rw [zb_or]
                      refine zs_istore_4_8 148 rfl dX10_common_146 rfl rfl ?_
                      refine zs_iinc_5_8_1 151 rfl dX10_common_148 rfl rfl ?_
                      rw [nI_add]
                      refine z_goto 62 dX10_common_151 rfl ?_
                      first
                        | exact absurd h110 (by decide)
                        | exact absurd h115 (by decide)
                        | exact absurd h134 (by decide)
                        | (have z3 : (fun p => fU2 (sUs S 0 w) n p && fU2 (sUs S 1 w) n p) i = false := by (show (fU2 (sUs S 0 w) n i && fU2 (sUs S 1 w) n i) = false; rw [g0, g1]; rfl)
                           have z4 : (fun p => fU2 (sUs S 0 w) n p != fU2 (sUs S 1 w) n p) i = false := by (show (fU2 (sUs S 0 w) n i != fU2 (sUs S 1 w) n i) = false; rw [g0, g1]; rfl)
                           rw [bs_f' z3, bs_f' z4]
                           exact zf_6_8 (zf_7_8 hih))
                        | (have z3 : (fun p => fU2 (sUs S 0 w) n p && fU2 (sUs S 1 w) n p) i = true := by (show (fU2 (sUs S 0 w) n i && fU2 (sUs S 1 w) n i) = true; rw [g0, g1]; rfl)
                           have z4 : (fun p => fU2 (sUs S 0 w) n p != fU2 (sUs S 1 w) n p) i = false := by (show (fU2 (sUs S 0 w) n i != fU2 (sUs S 1 w) n i) = false; rw [g0, g1]; rfl)
                           rw [bs_t z3, bs_f' z4]
                           exact zf_6_8 (zf_7_8 hih))
                        | (have z3 : (fun p => fU2 (sUs S 0 w) n p && fU2 (sUs S 1 w) n p) i = false := by (show (fU2 (sUs S 0 w) n i && fU2 (sUs S 1 w) n i) = false; rw [g0, g1]; rfl)
                           have z4 : (fun p => fU2 (sUs S 0 w) n p != fU2 (sUs S 1 w) n p) i = true := by (show (fU2 (sUs S 0 w) n i != fU2 (sUs S 1 w) n i) = true; rw [g0, g1]; rfl)
                           rw [bs_f' z3, bs_t z4]
                           exact zf_6_8 (zf_7_8 hih))
                    · refine z_iconst 138 (v := nI 1) dX10_common_137 rfl rfl ?_
                      refine z_iload 140 dX10_common_138 rfl rfl ?_
                      refine z_ishl 141 dX10_common_140 rfl ?_
                      rw [zb_shl (by omega)]
                      refine z_goto 145 dX10_common_141 rfl ?_
                      refine z_ior 146 dX10_common_145 rfl ?_
                      rw [zb_or]
                      refine zs_istore_4_8 148 rfl dX10_common_146 rfl rfl ?_
                      refine zs_iinc_5_8_1 151 rfl dX10_common_148 rfl rfl ?_
                      rw [nI_add]
                      refine z_goto 62 dX10_common_151 rfl ?_
                      first
                        | exact absurd h110 (by decide)
                        | exact absurd h115 (by decide)
                        | exact absurd h134 (by decide)
                        | (have z3 : (fun p => fU2 (sUs S 0 w) n p && fU2 (sUs S 1 w) n p) i = false := by (show (fU2 (sUs S 0 w) n i && fU2 (sUs S 1 w) n i) = false; rw [g0, g1]; rfl)
                           have z4 : (fun p => fU2 (sUs S 0 w) n p != fU2 (sUs S 1 w) n p) i = false := by (show (fU2 (sUs S 0 w) n i != fU2 (sUs S 1 w) n i) = false; rw [g0, g1]; rfl)
                           rw [bs_f' z3, bs_f' z4]
                           exact zf_6_8 (zf_7_8 hih))
                        | (have z3 : (fun p => fU2 (sUs S 0 w) n p && fU2 (sUs S 1 w) n p) i = true := by (show (fU2 (sUs S 0 w) n i && fU2 (sUs S 1 w) n i) = true; rw [g0, g1]; rfl)
                           have z4 : (fun p => fU2 (sUs S 0 w) n p != fU2 (sUs S 1 w) n p) i = false := by (show (fU2 (sUs S 0 w) n i != fU2 (sUs S 1 w) n i) = false; rw [g0, g1]; rfl)
                           rw [bs_t z3, bs_f' z4]
                           exact zf_6_8 (zf_7_8 hih))
                        | (have z3 : (fun p => fU2 (sUs S 0 w) n p && fU2 (sUs S 1 w) n p) i = false := by (show (fU2 (sUs S 0 w) n i && fU2 (sUs S 1 w) n i) = false; rw [g0, g1]; rfl)
                           have z4 : (fun p => fU2 (sUs S 0 w) n p != fU2 (sUs S 1 w) n p) i = true := by (show (fU2 (sUs S 0 w) n i != fU2 (sUs S 1 w) n i) = true; rw [g0, g1]; rfl)
                           rw [bs_f' z3, bs_t z4]
                           exact zf_6_8 (zf_7_8 hih))
                  · refine z_iconst 119 (v := nI 1) dX10_common_118 rfl rfl ?_
                    refine z_iload 121 dX10_common_119 rfl rfl ?_
                    refine z_ishl 122 dX10_common_121 rfl ?_
                    rw [zb_shl (by omega)]
                    refine z_goto 126 dX10_common_122 rfl ?_
                    refine z_ior 127 dX10_common_126 rfl ?_
                    rw [zb_or]
                    refine zs_istore_n_3_8 128 rfl dX10_common_127 rfl rfl ?_
                    refine z_iload 130 dX10_common_128 rfl rfl ?_
                    refine z_iload 132 dX10_common_130 rfl rfl ?_
                    refine z_iload 134 dX10_common_132 rfl rfl ?_
                    refine z_icmp_eq 144 137 dX10_common_134 (by decide) rfl (fun h134 => ?_) (fun h134 => ?_)
                    · refine z_iconst 145 (v := nI 0) dX10_common_144 rfl rfl ?_
                      refine z_ior 146 dX10_common_145 rfl ?_
                      rw [zb_or]
                      refine zs_istore_4_8 148 rfl dX10_common_146 rfl rfl ?_
                      refine zs_iinc_5_8_1 151 rfl dX10_common_148 rfl rfl ?_
                      rw [nI_add]
                      refine z_goto 62 dX10_common_151 rfl ?_
                      first
                        | exact absurd h110 (by decide)
                        | exact absurd h115 (by decide)
                        | exact absurd h134 (by decide)
                        | (have z3 : (fun p => fU2 (sUs S 0 w) n p && fU2 (sUs S 1 w) n p) i = false := by (show (fU2 (sUs S 0 w) n i && fU2 (sUs S 1 w) n i) = false; rw [g0, g1]; rfl)
                           have z4 : (fun p => fU2 (sUs S 0 w) n p != fU2 (sUs S 1 w) n p) i = false := by (show (fU2 (sUs S 0 w) n i != fU2 (sUs S 1 w) n i) = false; rw [g0, g1]; rfl)
                           rw [bs_f' z3, bs_f' z4]
                           exact zf_6_8 (zf_7_8 hih))
                        | (have z3 : (fun p => fU2 (sUs S 0 w) n p && fU2 (sUs S 1 w) n p) i = true := by (show (fU2 (sUs S 0 w) n i && fU2 (sUs S 1 w) n i) = true; rw [g0, g1]; rfl)
                           have z4 : (fun p => fU2 (sUs S 0 w) n p != fU2 (sUs S 1 w) n p) i = false := by (show (fU2 (sUs S 0 w) n i != fU2 (sUs S 1 w) n i) = false; rw [g0, g1]; rfl)
                           rw [bs_t z3, bs_f' z4]
                           exact zf_6_8 (zf_7_8 hih))
                        | (have z3 : (fun p => fU2 (sUs S 0 w) n p && fU2 (sUs S 1 w) n p) i = false := by (show (fU2 (sUs S 0 w) n i && fU2 (sUs S 1 w) n i) = false; rw [g0, g1]; rfl)
                           have z4 : (fun p => fU2 (sUs S 0 w) n p != fU2 (sUs S 1 w) n p) i = true := by (show (fU2 (sUs S 0 w) n i != fU2 (sUs S 1 w) n i) = true; rw [g0, g1]; rfl)
                           rw [bs_f' z3, bs_t z4]
                           exact zf_6_8 (zf_7_8 hih))
                    · refine z_iconst 138 (v := nI 1) dX10_common_137 rfl rfl ?_
                      refine z_iload 140 dX10_common_138 rfl rfl ?_
                      refine z_ishl 141 dX10_common_140 rfl ?_
                      rw [zb_shl (by omega)]
                      refine z_goto 145 dX10_common_141 rfl ?_
                      refine z_ior 146 dX10_common_145 rfl ?_
                      rw [zb_or]
                      refine zs_istore_4_8 148 rfl dX10_common_146 rfl rfl ?_
                      refine zs_iinc_5_8_1 151 rfl dX10_common_148 rfl rfl ?_
                      rw [nI_add]
                      refine z_goto 62 dX10_common_151 rfl ?_
                      first
                        | exact absurd h110 (by decide)
                        | exact absurd h115 (by decide)
                        | exact absurd h134 (by decide)
                        | (have z3 : (fun p => fU2 (sUs S 0 w) n p && fU2 (sUs S 1 w) n p) i = false := by (show (fU2 (sUs S 0 w) n i && fU2 (sUs S 1 w) n i) = false; rw [g0, g1]; rfl)
                           have z4 : (fun p => fU2 (sUs S 0 w) n p != fU2 (sUs S 1 w) n p) i = false := by (show (fU2 (sUs S 0 w) n i != fU2 (sUs S 1 w) n i) = false; rw [g0, g1]; rfl)
                           rw [bs_f' z3, bs_f' z4]
                           exact zf_6_8 (zf_7_8 hih))
                        | (have z3 : (fun p => fU2 (sUs S 0 w) n p && fU2 (sUs S 1 w) n p) i = true := by (show (fU2 (sUs S 0 w) n i && fU2 (sUs S 1 w) n i) = true; rw [g0, g1]; rfl)
                           have z4 : (fun p => fU2 (sUs S 0 w) n p != fU2 (sUs S 1 w) n p) i = false := by (show (fU2 (sUs S 0 w) n i != fU2 (sUs S 1 w) n i) = false; rw [g0, g1]; rfl)
                           rw [bs_t z3, bs_f' z4]
                           exact zf_6_8 (zf_7_8 hih))
                        | (have z3 : (fun p => fU2 (sUs S 0 w) n p && fU2 (sUs S 1 w) n p) i = false := by (show (fU2 (sUs S 0 w) n i && fU2 (sUs S 1 w) n i) = false; rw [g0, g1]; rfl)
                           have z4 : (fun p => fU2 (sUs S 0 w) n p != fU2 (sUs S 1 w) n p) i = true := by (show (fU2 (sUs S 0 w) n i != fU2 (sUs S 1 w) n i) = true; rw [g0, g1]; rfl)
                           rw [bs_f' z3, bs_t z4]
                           exact zf_6_8 (zf_7_8 hih))
            · (try rw [nI_ltI (by omega) (by omega)] at h78)
              have g0 := f0 _ (decide_eq_true (by omega))
              refine z_iconst 82 (v := nI 1) dX10_common_81 rfl rfl ?_
              refine z_goto 86 dX10_common_82 rfl ?_
              refine zs_istore_6_8 88 rfl dX10_common_86 rfl rfl ?_
              refine z_aload_n 89 dX10_common_88 rfl rfl ?_
              refine z_iconst 90 (v := nI 1) dX10_common_89 rfl rfl ?_
              refine z_iload_n 91 dX10_common_90 rfl rfl ?_
              refine z_iload 93 dX10_common_91 rfl rfl ?_
              refine z_cVI3 96 (tX10_use (by omega) (by omega) (by omega)) kX10_use dX10_common_93 rfl lX10_154 (by first | assumption | rfl) (Nat.le_of_ble_eq_true rfl) ?_
              rintro _ _ ⟨e1, e2⟩
              replace e1 := e1.symm
              replace e2 := e2.symm
              subst e1
              subst e2
              rw [a2]
              refine z_iload_n 97 dX10_common_96 rfl rfl ?_
              refine z_icmp_lt 104 100 dX10_common_97 (by decide) rfl (fun h97 => ?_) (fun h97 => ?_)
              · (try rw [nI_ltI (by omega) (by omega)] at h97)
                have g1 := f1 _ (decide_eq_false (by omega))
                refine z_iconst 105 (v := nI 0) dX10_common_104 rfl rfl ?_
                refine zs_istore_7_8 107 rfl dX10_common_105 rfl rfl ?_
                refine z_iload_n 108 dX10_common_107 rfl rfl ?_
                refine z_iload 110 dX10_common_108 rfl rfl ?_
                refine z_if_eq 125 113 dX10_common_110 (by decide) rfl (fun h110 => ?_) (fun h110 => ?_)
                · refine z_iconst 126 (v := nI 0) dX10_common_125 rfl rfl ?_
                  refine z_ior 127 dX10_common_126 rfl ?_
                  rw [zb_or]
                  refine zs_istore_n_3_8 128 rfl dX10_common_127 rfl rfl ?_
                  refine z_iload 130 dX10_common_128 rfl rfl ?_
                  refine z_iload 132 dX10_common_130 rfl rfl ?_
                  refine z_iload 134 dX10_common_132 rfl rfl ?_
                  refine z_icmp_eq 144 137 dX10_common_134 (by decide) rfl (fun h134 => ?_) (fun h134 => ?_)
                  · refine z_iconst 145 (v := nI 0) dX10_common_144 rfl rfl ?_
                    refine z_ior 146 dX10_common_145 rfl ?_
                    rw [zb_or]
                    refine zs_istore_4_8 148 rfl dX10_common_146 rfl rfl ?_
                    refine zs_iinc_5_8_1 151 rfl dX10_common_148 rfl rfl ?_
                    rw [nI_add]
                    refine z_goto 62 dX10_common_151 rfl ?_
                    first
                      | exact absurd h110 (by decide)
                      | exact absurd h115 (by decide)
                      | exact absurd h134 (by decide)
                      | (have z3 : (fun p => fU2 (sUs S 0 w) n p && fU2 (sUs S 1 w) n p) i = false := by (show (fU2 (sUs S 0 w) n i && fU2 (sUs S 1 w) n i) = false; rw [g0, g1]; rfl)
                         have z4 : (fun p => fU2 (sUs S 0 w) n p != fU2 (sUs S 1 w) n p) i = false := by (show (fU2 (sUs S 0 w) n i != fU2 (sUs S 1 w) n i) = false; rw [g0, g1]; rfl)
                         rw [bs_f' z3, bs_f' z4]
                         exact zf_6_8 (zf_7_8 hih))
                      | (have z3 : (fun p => fU2 (sUs S 0 w) n p && fU2 (sUs S 1 w) n p) i = true := by (show (fU2 (sUs S 0 w) n i && fU2 (sUs S 1 w) n i) = true; rw [g0, g1]; rfl)
                         have z4 : (fun p => fU2 (sUs S 0 w) n p != fU2 (sUs S 1 w) n p) i = false := by (show (fU2 (sUs S 0 w) n i != fU2 (sUs S 1 w) n i) = false; rw [g0, g1]; rfl)
                         rw [bs_t z3, bs_f' z4]
                         exact zf_6_8 (zf_7_8 hih))
                      | (have z3 : (fun p => fU2 (sUs S 0 w) n p && fU2 (sUs S 1 w) n p) i = false := by (show (fU2 (sUs S 0 w) n i && fU2 (sUs S 1 w) n i) = false; rw [g0, g1]; rfl)
                         have z4 : (fun p => fU2 (sUs S 0 w) n p != fU2 (sUs S 1 w) n p) i = true := by (show (fU2 (sUs S 0 w) n i != fU2 (sUs S 1 w) n i) = true; rw [g0, g1]; rfl)
                         rw [bs_f' z3, bs_t z4]
                         exact zf_6_8 (zf_7_8 hih))
                  · refine z_iconst 138 (v := nI 1) dX10_common_137 rfl rfl ?_
                    refine z_iload 140 dX10_common_138 rfl rfl ?_
                    refine z_ishl 141 dX10_common_140 rfl ?_
                    rw [zb_shl (by omega)]
                    refine z_goto 145 dX10_common_141 rfl ?_
                    refine z_ior 146 dX10_common_145 rfl ?_
                    rw [zb_or]
                    refine zs_istore_4_8 148 rfl dX10_common_146 rfl rfl ?_
                    refine zs_iinc_5_8_1 151 rfl dX10_common_148 rfl rfl ?_
                    rw [nI_add]
                    refine z_goto 62 dX10_common_151 rfl ?_
                    first
                      | exact absurd h110 (by decide)
                      | exact absurd h115 (by decide)
                      | exact absurd h134 (by decide)
                      | (have z3 : (fun p => fU2 (sUs S 0 w) n p && fU2 (sUs S 1 w) n p) i = false := by (show (fU2 (sUs S 0 w) n i && fU2 (sUs S 1 w) n i) = false; rw [g0, g1]; rfl)
                         have z4 : (fun p => fU2 (sUs S 0 w) n p != fU2 (sUs S 1 w) n p) i = false := by (show (fU2 (sUs S 0 w) n i != fU2 (sUs S 1 w) n i) = false; rw [g0, g1]; rfl)
                         rw [bs_f' z3, bs_f' z4]
                         exact zf_6_8 (zf_7_8 hih))
                      | (have z3 : (fun p => fU2 (sUs S 0 w) n p && fU2 (sUs S 1 w) n p) i = true := by (show (fU2 (sUs S 0 w) n i && fU2 (sUs S 1 w) n i) = true; rw [g0, g1]; rfl)
                         have z4 : (fun p => fU2 (sUs S 0 w) n p != fU2 (sUs S 1 w) n p) i = false := by (show (fU2 (sUs S 0 w) n i != fU2 (sUs S 1 w) n i) = false; rw [g0, g1]; rfl)
                         rw [bs_t z3, bs_f' z4]
                         exact zf_6_8 (zf_7_8 hih))
                      | (have z3 : (fun p => fU2 (sUs S 0 w) n p && fU2 (sUs S 1 w) n p) i = false := by (show (fU2 (sUs S 0 w) n i && fU2 (sUs S 1 w) n i) = false; rw [g0, g1]; rfl)
                         have z4 : (fun p => fU2 (sUs S 0 w) n p != fU2 (sUs S 1 w) n p) i = true := by (show (fU2 (sUs S 0 w) n i != fU2 (sUs S 1 w) n i) = true; rw [g0, g1]; rfl)
                         rw [bs_f' z3, bs_t z4]
                         exact zf_6_8 (zf_7_8 hih))
                · refine z_iload 115 dX10_common_113 rfl rfl ?_
                  refine z_if_eq 125 118 dX10_common_115 (by decide) rfl (fun h115 => ?_) (fun h115 => ?_)
                  · refine z_iconst 126 (v := nI 0) dX10_common_125 rfl rfl ?_
                    refine z_ior 127 dX10_common_126 rfl ?_
                    rw [zb_or]
                    refine zs_istore_n_3_8 128 rfl dX10_common_127 rfl rfl ?_
                    refine z_iload 130 dX10_common_128 rfl rfl ?_
                    refine z_iload 132 dX10_common_130 rfl rfl ?_
                    refine z_iload 134 dX10_common_132 rfl rfl ?_
                    refine z_icmp_eq 144 137 dX10_common_134 (by decide) rfl (fun h134 => ?_) (fun h134 => ?_)
                    · refine z_iconst 145 (v := nI 0) dX10_common_144 rfl rfl ?_
                      refine z_ior 146 dX10_common_145 rfl ?_
                      rw [zb_or]
                      refine zs_istore_4_8 148 rfl dX10_common_146 rfl rfl ?_
                      refine zs_iinc_5_8_1 151 rfl dX10_common_148 rfl rfl ?_
                      rw [nI_add]
                      refine z_goto 62 dX10_common_151 rfl ?_
                      first
                        | exact absurd h110 (by decide)
                        | exact absurd h115 (by decide)
                        | exact absurd h134 (by decide)
                        | (have z3 : (fun p => fU2 (sUs S 0 w) n p && fU2 (sUs S 1 w) n p) i = false := by (show (fU2 (sUs S 0 w) n i && fU2 (sUs S 1 w) n i) = false; rw [g0, g1]; rfl)
                           have z4 : (fun p => fU2 (sUs S 0 w) n p != fU2 (sUs S 1 w) n p) i = false := by (show (fU2 (sUs S 0 w) n i != fU2 (sUs S 1 w) n i) = false; rw [g0, g1]; rfl)
                           rw [bs_f' z3, bs_f' z4]
                           exact zf_6_8 (zf_7_8 hih))
                        | (have z3 : (fun p => fU2 (sUs S 0 w) n p && fU2 (sUs S 1 w) n p) i = true := by (show (fU2 (sUs S 0 w) n i && fU2 (sUs S 1 w) n i) = true; rw [g0, g1]; rfl)
                           have z4 : (fun p => fU2 (sUs S 0 w) n p != fU2 (sUs S 1 w) n p) i = false := by (show (fU2 (sUs S 0 w) n i != fU2 (sUs S 1 w) n i) = false; rw [g0, g1]; rfl)
                           rw [bs_t z3, bs_f' z4]
                           exact zf_6_8 (zf_7_8 hih))
                        | (have z3 : (fun p => fU2 (sUs S 0 w) n p && fU2 (sUs S 1 w) n p) i = false := by (show (fU2 (sUs S 0 w) n i && fU2 (sUs S 1 w) n i) = false; rw [g0, g1]; rfl)
                           have z4 : (fun p => fU2 (sUs S 0 w) n p != fU2 (sUs S 1 w) n p) i = true := by (show (fU2 (sUs S 0 w) n i != fU2 (sUs S 1 w) n i) = true; rw [g0, g1]; rfl)
                           rw [bs_f' z3, bs_t z4]
                           exact zf_6_8 (zf_7_8 hih))
                    · refine z_iconst 138 (v := nI 1) dX10_common_137 rfl rfl ?_
                      refine z_iload 140 dX10_common_138 rfl rfl ?_
                      refine z_ishl 141 dX10_common_140 rfl ?_
                      rw [zb_shl (by omega)]
                      refine z_goto 145 dX10_common_141 rfl ?_
                      refine z_ior 146 dX10_common_145 rfl ?_
                      rw [zb_or]
                      refine zs_istore_4_8 148 rfl dX10_common_146 rfl rfl ?_
                      refine zs_iinc_5_8_1 151 rfl dX10_common_148 rfl rfl ?_
                      rw [nI_add]
                      refine z_goto 62 dX10_common_151 rfl ?_
                      first
                        | exact absurd h110 (by decide)
                        | exact absurd h115 (by decide)
                        | exact absurd h134 (by decide)
                        | (have z3 : (fun p => fU2 (sUs S 0 w) n p && fU2 (sUs S 1 w) n p) i = false := by (show (fU2 (sUs S 0 w) n i && fU2 (sUs S 1 w) n i) = false; rw [g0, g1]; rfl)
                           have z4 : (fun p => fU2 (sUs S 0 w) n p != fU2 (sUs S 1 w) n p) i = false := by (show (fU2 (sUs S 0 w) n i != fU2 (sUs S 1 w) n i) = false; rw [g0, g1]; rfl)
                           rw [bs_f' z3, bs_f' z4]
                           exact zf_6_8 (zf_7_8 hih))
                        | (have z3 : (fun p => fU2 (sUs S 0 w) n p && fU2 (sUs S 1 w) n p) i = true := by (show (fU2 (sUs S 0 w) n i && fU2 (sUs S 1 w) n i) = true; rw [g0, g1]; rfl)
                           have z4 : (fun p => fU2 (sUs S 0 w) n p != fU2 (sUs S 1 w) n p) i = false := by (show (fU2 (sUs S 0 w) n i != fU2 (sUs S 1 w) n i) = false; rw [g0, g1]; rfl)
                           rw [bs_t z3, bs_f' z4]
                           exact zf_6_8 (zf_7_8 hih))
                        | (have z3 : (fun p => fU2 (sUs S 0 w) n p && fU2 (sUs S 1 w) n p) i = false := by (show (fU2 (sUs S 0 w) n i && fU2 (sUs S 1 w) n i) = false; rw [g0, g1]; rfl)
                           have z4 : (fun p => fU2 (sUs S 0 w) n p != fU2 (sUs S 1 w) n p) i = true := by (show (fU2 (sUs S 0 w) n i != fU2 (sUs S 1 w) n i) = true; rw [g0, g1]; rfl)
                           rw [bs_f' z3, bs_t z4]
                           exact zf_6_8 (zf_7_8 hih))
                  · refine z_iconst 119 (v := nI 1) dX10_common_118 rfl rfl ?_
                    refine z_iload 121 dX10_common_119 rfl rfl ?_
                    refine z_ishl 122 dX10_common_121 rfl ?_
                    rw [zb_shl (by omega)]
                    refine z_goto 126 dX10_common_122 rfl ?_
                    refine z_ior 127 dX10_common_126 rfl ?_
                    rw [zb_or]
                    refine zs_istore_n_3_8 128 rfl dX10_common_127 rfl rfl ?_
                    refine z_iload 130 dX10_common_128 rfl rfl ?_
                    refine z_iload 132 dX10_common_130 rfl rfl ?_
                    refine z_iload 134 dX10_common_132 rfl rfl ?_
                    refine z_icmp_eq 144 137 dX10_common_134 (by decide) rfl (fun h134 => ?_) (fun h134 => ?_)
                    · refine z_iconst 145 (v := nI 0) dX10_common_144 rfl rfl ?_
                      refine z_ior 146 dX10_common_145 rfl ?_
                      rw [zb_or]
                      refine zs_istore_4_8 148 rfl dX10_common_146 rfl rfl ?_
                      refine zs_iinc_5_8_1 151 rfl dX10_common_148 rfl rfl ?_
                      rw [nI_add]
                      refine z_goto 62 dX10_common_151 rfl ?_
                      first
                        | exact absurd h110 (by decide)
                        | exact absurd h115 (by decide)
                        | exact absurd h134 (by decide)
                        | (have z3 : (fun p => fU2 (sUs S 0 w) n p && fU2 (sUs S 1 w) n p) i = false := by (show (fU2 (sUs S 0 w) n i && fU2 (sUs S 1 w) n i) = false; rw [g0, g1]; rfl)
                           have z4 : (fun p => fU2 (sUs S 0 w) n p != fU2 (sUs S 1 w) n p) i = false := by (show (fU2 (sUs S 0 w) n i != fU2 (sUs S 1 w) n i) = false; rw [g0, g1]; rfl)
                           rw [bs_f' z3, bs_f' z4]
                           exact zf_6_8 (zf_7_8 hih))
                        | (have z3 : (fun p => fU2 (sUs S 0 w) n p && fU2 (sUs S 1 w) n p) i = true := by (show (fU2 (sUs S 0 w) n i && fU2 (sUs S 1 w) n i) = true; rw [g0, g1]; rfl)
                           have z4 : (fun p => fU2 (sUs S 0 w) n p != fU2 (sUs S 1 w) n p) i = false := by (show (fU2 (sUs S 0 w) n i != fU2 (sUs S 1 w) n i) = false; rw [g0, g1]; rfl)
                           rw [bs_t z3, bs_f' z4]
                           exact zf_6_8 (zf_7_8 hih))
                        | (have z3 : (fun p => fU2 (sUs S 0 w) n p && fU2 (sUs S 1 w) n p) i = false := by (show (fU2 (sUs S 0 w) n i && fU2 (sUs S 1 w) n i) = false; rw [g0, g1]; rfl)
                           have z4 : (fun p => fU2 (sUs S 0 w) n p != fU2 (sUs S 1 w) n p) i = true := by (show (fU2 (sUs S 0 w) n i != fU2 (sUs S 1 w) n i) = true; rw [g0, g1]; rfl)
                           rw [bs_f' z3, bs_t z4]
                           exact zf_6_8 (zf_7_8 hih))
                    · refine z_iconst 138 (v := nI 1) dX10_common_137 rfl rfl ?_
                      refine z_iload 140 dX10_common_138 rfl rfl ?_
                      refine z_ishl 141 dX10_common_140 rfl ?_
                      rw [zb_shl (by omega)]
                      refine z_goto 145 dX10_common_141 rfl ?_
                      refine z_ior 146 dX10_common_145 rfl ?_
                      rw [zb_or]
                      refine zs_istore_4_8 148 rfl dX10_common_146 rfl rfl ?_
                      refine zs_iinc_5_8_1 151 rfl dX10_common_148 rfl rfl ?_
                      rw [nI_add]
                      refine z_goto 62 dX10_common_151 rfl ?_
                      first
                        | exact absurd h110 (by decide)
                        | exact absurd h115 (by decide)
                        | exact absurd h134 (by decide)
                        | (have z3 : (fun p => fU2 (sUs S 0 w) n p && fU2 (sUs S 1 w) n p) i = false := by (show (fU2 (sUs S 0 w) n i && fU2 (sUs S 1 w) n i) = false; rw [g0, g1]; rfl)
                           have z4 : (fun p => fU2 (sUs S 0 w) n p != fU2 (sUs S 1 w) n p) i = false := by (show (fU2 (sUs S 0 w) n i != fU2 (sUs S 1 w) n i) = false; rw [g0, g1]; rfl)
                           rw [bs_f' z3, bs_f' z4]
                           exact zf_6_8 (zf_7_8 hih))
                        | (have z3 : (fun p => fU2 (sUs S 0 w) n p && fU2 (sUs S 1 w) n p) i = true := by (show (fU2 (sUs S 0 w) n i && fU2 (sUs S 1 w) n i) = true; rw [g0, g1]; rfl)
                           have z4 : (fun p => fU2 (sUs S 0 w) n p != fU2 (sUs S 1 w) n p) i = false := by (show (fU2 (sUs S 0 w) n i != fU2 (sUs S 1 w) n i) = false; rw [g0, g1]; rfl)
                           rw [bs_t z3, bs_f' z4]
                           exact zf_6_8 (zf_7_8 hih))
                        | (have z3 : (fun p => fU2 (sUs S 0 w) n p && fU2 (sUs S 1 w) n p) i = false := by (show (fU2 (sUs S 0 w) n i && fU2 (sUs S 1 w) n i) = false; rw [g0, g1]; rfl)
                           have z4 : (fun p => fU2 (sUs S 0 w) n p != fU2 (sUs S 1 w) n p) i = true := by (show (fU2 (sUs S 0 w) n i != fU2 (sUs S 1 w) n i) = true; rw [g0, g1]; rfl)
                           rw [bs_f' z3, bs_t z4]
                           exact zf_6_8 (zf_7_8 hih))
              · (try rw [nI_ltI (by omega) (by omega)] at h97)
                have g1 := f1 _ (decide_eq_true (by omega))
                refine z_iconst 101 (v := nI 1) dX10_common_100 rfl rfl ?_
                refine z_goto 105 dX10_common_101 rfl ?_
                refine zs_istore_7_8 107 rfl dX10_common_105 rfl rfl ?_
                refine z_iload_n 108 dX10_common_107 rfl rfl ?_
                refine z_iload 110 dX10_common_108 rfl rfl ?_
                refine z_if_eq 125 113 dX10_common_110 (by decide) rfl (fun h110 => ?_) (fun h110 => ?_)
                · refine z_iconst 126 (v := nI 0) dX10_common_125 rfl rfl ?_
                  refine z_ior 127 dX10_common_126 rfl ?_
                  rw [zb_or]
                  refine zs_istore_n_3_8 128 rfl dX10_common_127 rfl rfl ?_
                  refine z_iload 130 dX10_common_128 rfl rfl ?_
                  refine z_iload 132 dX10_common_130 rfl rfl ?_
                  refine z_iload 134 dX10_common_132 rfl rfl ?_
                  refine z_icmp_eq 144 137 dX10_common_134 (by decide) rfl (fun h134 => ?_) (fun h134 => ?_)
                  · refine z_iconst 145 (v := nI 0) dX10_common_144 rfl rfl ?_
                    refine z_ior 146 dX10_common_145 rfl ?_
                    rw [zb_or]
                    refine zs_istore_4_8 148 rfl dX10_common_146 rfl rfl ?_
                    refine zs_iinc_5_8_1 151 rfl dX10_common_148 rfl rfl ?_
                    rw [nI_add]
                    refine z_goto 62 dX10_common_151 rfl ?_
                    first
                      | exact absurd h110 (by decide)
                      | exact absurd h115 (by decide)
                      | exact absurd h134 (by decide)
                      | (have z3 : (fun p => fU2 (sUs S 0 w) n p && fU2 (sUs S 1 w) n p) i = false := by (show (fU2 (sUs S 0 w) n i && fU2 (sUs S 1 w) n i) = false; rw [g0, g1]; rfl)
                         have z4 : (fun p => fU2 (sUs S 0 w) n p != fU2 (sUs S 1 w) n p) i = false := by (show (fU2 (sUs S 0 w) n i != fU2 (sUs S 1 w) n i) = false; rw [g0, g1]; rfl)
                         rw [bs_f' z3, bs_f' z4]
                         exact zf_6_8 (zf_7_8 hih))
                      | (have z3 : (fun p => fU2 (sUs S 0 w) n p && fU2 (sUs S 1 w) n p) i = true := by (show (fU2 (sUs S 0 w) n i && fU2 (sUs S 1 w) n i) = true; rw [g0, g1]; rfl)
                         have z4 : (fun p => fU2 (sUs S 0 w) n p != fU2 (sUs S 1 w) n p) i = false := by (show (fU2 (sUs S 0 w) n i != fU2 (sUs S 1 w) n i) = false; rw [g0, g1]; rfl)
                         rw [bs_t z3, bs_f' z4]
                         exact zf_6_8 (zf_7_8 hih))
                      | (have z3 : (fun p => fU2 (sUs S 0 w) n p && fU2 (sUs S 1 w) n p) i = false := by (show (fU2 (sUs S 0 w) n i && fU2 (sUs S 1 w) n i) = false; rw [g0, g1]; rfl)
                         have z4 : (fun p => fU2 (sUs S 0 w) n p != fU2 (sUs S 1 w) n p) i = true := by (show (fU2 (sUs S 0 w) n i != fU2 (sUs S 1 w) n i) = true; rw [g0, g1]; rfl)
                         rw [bs_f' z3, bs_t z4]
                         exact zf_6_8 (zf_7_8 hih))
                  · refine z_iconst 138 (v := nI 1) dX10_common_137 rfl rfl ?_
                    refine z_iload 140 dX10_common_138 rfl rfl ?_
                    refine z_ishl 141 dX10_common_140 rfl ?_
                    rw [zb_shl (by omega)]
                    refine z_goto 145 dX10_common_141 rfl ?_
                    refine z_ior 146 dX10_common_145 rfl ?_
                    rw [zb_or]
                    refine zs_istore_4_8 148 rfl dX10_common_146 rfl rfl ?_
                    refine zs_iinc_5_8_1 151 rfl dX10_common_148 rfl rfl ?_
                    rw [nI_add]
                    refine z_goto 62 dX10_common_151 rfl ?_
                    first
                      | exact absurd h110 (by decide)
                      | exact absurd h115 (by decide)
                      | exact absurd h134 (by decide)
                      | (have z3 : (fun p => fU2 (sUs S 0 w) n p && fU2 (sUs S 1 w) n p) i = false := by (show (fU2 (sUs S 0 w) n i && fU2 (sUs S 1 w) n i) = false; rw [g0, g1]; rfl)
                         have z4 : (fun p => fU2 (sUs S 0 w) n p != fU2 (sUs S 1 w) n p) i = false := by (show (fU2 (sUs S 0 w) n i != fU2 (sUs S 1 w) n i) = false; rw [g0, g1]; rfl)
                         rw [bs_f' z3, bs_f' z4]
                         exact zf_6_8 (zf_7_8 hih))
                      | (have z3 : (fun p => fU2 (sUs S 0 w) n p && fU2 (sUs S 1 w) n p) i = true := by (show (fU2 (sUs S 0 w) n i && fU2 (sUs S 1 w) n i) = true; rw [g0, g1]; rfl)
                         have z4 : (fun p => fU2 (sUs S 0 w) n p != fU2 (sUs S 1 w) n p) i = false := by (show (fU2 (sUs S 0 w) n i != fU2 (sUs S 1 w) n i) = false; rw [g0, g1]; rfl)
                         rw [bs_t z3, bs_f' z4]
                         exact zf_6_8 (zf_7_8 hih))
                      | (have z3 : (fun p => fU2 (sUs S 0 w) n p && fU2 (sUs S 1 w) n p) i = false := by (show (fU2 (sUs S 0 w) n i && fU2 (sUs S 1 w) n i) = false; rw [g0, g1]; rfl)
                         have z4 : (fun p => fU2 (sUs S 0 w) n p != fU2 (sUs S 1 w) n p) i = true := by (show (fU2 (sUs S 0 w) n i != fU2 (sUs S 1 w) n i) = true; rw [g0, g1]; rfl)
                         rw [bs_f' z3, bs_t z4]
                         exact zf_6_8 (zf_7_8 hih))
                · refine z_iload 115 dX10_common_113 rfl rfl ?_
                  refine z_if_eq 125 118 dX10_common_115 (by decide) rfl (fun h115 => ?_) (fun h115 => ?_)
                  · refine z_iconst 126 (v := nI 0) dX10_common_125 rfl rfl ?_
                    refine z_ior 127 dX10_common_126 rfl ?_
                    rw [zb_or]
                    refine zs_istore_n_3_8 128 rfl dX10_common_127 rfl rfl ?_
                    refine z_iload 130 dX10_common_128 rfl rfl ?_
                    refine z_iload 132 dX10_common_130 rfl rfl ?_
                    refine z_iload 134 dX10_common_132 rfl rfl ?_
                    refine z_icmp_eq 144 137 dX10_common_134 (by decide) rfl (fun h134 => ?_) (fun h134 => ?_)
                    · refine z_iconst 145 (v := nI 0) dX10_common_144 rfl rfl ?_
                      refine z_ior 146 dX10_common_145 rfl ?_
                      rw [zb_or]
                      refine zs_istore_4_8 148 rfl dX10_common_146 rfl rfl ?_
                      refine zs_iinc_5_8_1 151 rfl dX10_common_148 rfl rfl ?_
                      rw [nI_add]
                      refine z_goto 62 dX10_common_151 rfl ?_
                      first
                        | exact absurd h110 (by decide)
                        | exact absurd h115 (by decide)
                        | exact absurd h134 (by decide)
                        | (have z3 : (fun p => fU2 (sUs S 0 w) n p && fU2 (sUs S 1 w) n p) i = false := by (show (fU2 (sUs S 0 w) n i && fU2 (sUs S 1 w) n i) = false; rw [g0, g1]; rfl)
                           have z4 : (fun p => fU2 (sUs S 0 w) n p != fU2 (sUs S 1 w) n p) i = false := by (show (fU2 (sUs S 0 w) n i != fU2 (sUs S 1 w) n i) = false; rw [g0, g1]; rfl)
                           rw [bs_f' z3, bs_f' z4]
                           exact zf_6_8 (zf_7_8 hih))
                        | (have z3 : (fun p => fU2 (sUs S 0 w) n p && fU2 (sUs S 1 w) n p) i = true := by (show (fU2 (sUs S 0 w) n i && fU2 (sUs S 1 w) n i) = true; rw [g0, g1]; rfl)
                           have z4 : (fun p => fU2 (sUs S 0 w) n p != fU2 (sUs S 1 w) n p) i = false := by (show (fU2 (sUs S 0 w) n i != fU2 (sUs S 1 w) n i) = false; rw [g0, g1]; rfl)
                           rw [bs_t z3, bs_f' z4]
                           exact zf_6_8 (zf_7_8 hih))
                        | (have z3 : (fun p => fU2 (sUs S 0 w) n p && fU2 (sUs S 1 w) n p) i = false := by (show (fU2 (sUs S 0 w) n i && fU2 (sUs S 1 w) n i) = false; rw [g0, g1]; rfl)
                           have z4 : (fun p => fU2 (sUs S 0 w) n p != fU2 (sUs S 1 w) n p) i = true := by (show (fU2 (sUs S 0 w) n i != fU2 (sUs S 1 w) n i) = true; rw [g0, g1]; rfl)
                           rw [bs_f' z3, bs_t z4]
                           exact zf_6_8 (zf_7_8 hih))
                    · refine z_iconst 138 (v := nI 1) dX10_common_137 rfl rfl ?_
                      refine z_iload 140 dX10_common_138 rfl rfl ?_
                      refine z_ishl 141 dX10_common_140 rfl ?_
                      rw [zb_shl (by omega)]
                      refine z_goto 145 dX10_common_141 rfl ?_
                      refine z_ior 146 dX10_common_145 rfl ?_
                      rw [zb_or]
                      refine zs_istore_4_8 148 rfl dX10_common_146 rfl rfl ?_
                      refine zs_iinc_5_8_1 151 rfl dX10_common_148 rfl rfl ?_
                      rw [nI_add]
                      refine z_goto 62 dX10_common_151 rfl ?_
                      first
                        | exact absurd h110 (by decide)
                        | exact absurd h115 (by decide)
                        | exact absurd h134 (by decide)
                        | (have z3 : (fun p => fU2 (sUs S 0 w) n p && fU2 (sUs S 1 w) n p) i = false := by (show (fU2 (sUs S 0 w) n i && fU2 (sUs S 1 w) n i) = false; rw [g0, g1]; rfl)
                           have z4 : (fun p => fU2 (sUs S 0 w) n p != fU2 (sUs S 1 w) n p) i = false := by (show (fU2 (sUs S 0 w) n i != fU2 (sUs S 1 w) n i) = false; rw [g0, g1]; rfl)
                           rw [bs_f' z3, bs_f' z4]
                           exact zf_6_8 (zf_7_8 hih))
                        | (have z3 : (fun p => fU2 (sUs S 0 w) n p && fU2 (sUs S 1 w) n p) i = true := by (show (fU2 (sUs S 0 w) n i && fU2 (sUs S 1 w) n i) = true; rw [g0, g1]; rfl)
                           have z4 : (fun p => fU2 (sUs S 0 w) n p != fU2 (sUs S 1 w) n p) i = false := by (show (fU2 (sUs S 0 w) n i != fU2 (sUs S 1 w) n i) = false; rw [g0, g1]; rfl)
                           rw [bs_t z3, bs_f' z4]
                           exact zf_6_8 (zf_7_8 hih))
                        | (have z3 : (fun p => fU2 (sUs S 0 w) n p && fU2 (sUs S 1 w) n p) i = false := by (show (fU2 (sUs S 0 w) n i && fU2 (sUs S 1 w) n i) = false; rw [g0, g1]; rfl)
                           have z4 : (fun p => fU2 (sUs S 0 w) n p != fU2 (sUs S 1 w) n p) i = true := by (show (fU2 (sUs S 0 w) n i != fU2 (sUs S 1 w) n i) = true; rw [g0, g1]; rfl)
                           rw [bs_f' z3, bs_t z4]
                           exact zf_6_8 (zf_7_8 hih))
                  · refine z_iconst 119 (v := nI 1) dX10_common_118 rfl rfl ?_
                    refine z_iload 121 dX10_common_119 rfl rfl ?_
                    refine z_ishl 122 dX10_common_121 rfl ?_
                    rw [zb_shl (by omega)]
                    refine z_goto 126 dX10_common_122 rfl ?_
                    refine z_ior 127 dX10_common_126 rfl ?_
                    rw [zb_or]
                    refine zs_istore_n_3_8 128 rfl dX10_common_127 rfl rfl ?_
                    refine z_iload 130 dX10_common_128 rfl rfl ?_
                    refine z_iload 132 dX10_common_130 rfl rfl ?_
                    refine z_iload 134 dX10_common_132 rfl rfl ?_
                    refine z_icmp_eq 144 137 dX10_common_134 (by decide) rfl (fun h134 => ?_) (fun h134 => ?_)
                    · refine z_iconst 145 (v := nI 0) dX10_common_144 rfl rfl ?_
                      refine z_ior 146 dX10_common_145 rfl ?_
                      rw [zb_or]
                      refine zs_istore_4_8 148 rfl dX10_common_146 rfl rfl ?_
                      refine zs_iinc_5_8_1 151 rfl dX10_common_148 rfl rfl ?_
                      rw [nI_add]
                      refine z_goto 62 dX10_common_151 rfl ?_
                      first
                        | exact absurd h110 (by decide)
                        | exact absurd h115 (by decide)
                        | exact absurd h134 (by decide)
                        | (have z3 : (fun p => fU2 (sUs S 0 w) n p && fU2 (sUs S 1 w) n p) i = false := by (show (fU2 (sUs S 0 w) n i && fU2 (sUs S 1 w) n i) = false; rw [g0, g1]; rfl)
                           have z4 : (fun p => fU2 (sUs S 0 w) n p != fU2 (sUs S 1 w) n p) i = false := by (show (fU2 (sUs S 0 w) n i != fU2 (sUs S 1 w) n i) = false; rw [g0, g1]; rfl)
                           rw [bs_f' z3, bs_f' z4]
                           exact zf_6_8 (zf_7_8 hih))
                        | (have z3 : (fun p => fU2 (sUs S 0 w) n p && fU2 (sUs S 1 w) n p) i = true := by (show (fU2 (sUs S 0 w) n i && fU2 (sUs S 1 w) n i) = true; rw [g0, g1]; rfl)
                           have z4 : (fun p => fU2 (sUs S 0 w) n p != fU2 (sUs S 1 w) n p) i = false := by (show (fU2 (sUs S 0 w) n i != fU2 (sUs S 1 w) n i) = false; rw [g0, g1]; rfl)
                           rw [bs_t z3, bs_f' z4]
                           exact zf_6_8 (zf_7_8 hih))
                        | (have z3 : (fun p => fU2 (sUs S 0 w) n p && fU2 (sUs S 1 w) n p) i = false := by (show (fU2 (sUs S 0 w) n i && fU2 (sUs S 1 w) n i) = false; rw [g0, g1]; rfl)
                           have z4 : (fun p => fU2 (sUs S 0 w) n p != fU2 (sUs S 1 w) n p) i = true := by (show (fU2 (sUs S 0 w) n i != fU2 (sUs S 1 w) n i) = true; rw [g0, g1]; rfl)
                           rw [bs_f' z3, bs_t z4]
                           exact zf_6_8 (zf_7_8 hih))
                    · refine z_iconst 138 (v := nI 1) dX10_common_137 rfl rfl ?_
                      refine z_iload 140 dX10_common_138 rfl rfl ?_
                      refine z_ishl 141 dX10_common_140 rfl ?_
                      rw [zb_shl (by omega)]
                      refine z_goto 145 dX10_common_141 rfl ?_
                      refine z_ior 146 dX10_common_145 rfl ?_
                      rw [zb_or]
                      refine zs_istore_4_8 148 rfl dX10_common_146 rfl rfl ?_
                      refine zs_iinc_5_8_1 151 rfl dX10_common_148 rfl rfl ?_
                      rw [nI_add]
                      refine z_goto 62 dX10_common_151 rfl ?_
                      first
                        | exact absurd h110 (by decide)
                        | exact absurd h115 (by decide)
                        | exact absurd h134 (by decide)
                        | (have z3 : (fun p => fU2 (sUs S 0 w) n p && fU2 (sUs S 1 w) n p) i = false := by (show (fU2 (sUs S 0 w) n i && fU2 (sUs S 1 w) n i) = false; rw [g0, g1]; rfl)
                           have z4 : (fun p => fU2 (sUs S 0 w) n p != fU2 (sUs S 1 w) n p) i = false := by (show (fU2 (sUs S 0 w) n i != fU2 (sUs S 1 w) n i) = false; rw [g0, g1]; rfl)
                           rw [bs_f' z3, bs_f' z4]
                           exact zf_6_8 (zf_7_8 hih))
                        | (have z3 : (fun p => fU2 (sUs S 0 w) n p && fU2 (sUs S 1 w) n p) i = true := by (show (fU2 (sUs S 0 w) n i && fU2 (sUs S 1 w) n i) = true; rw [g0, g1]; rfl)
                           have z4 : (fun p => fU2 (sUs S 0 w) n p != fU2 (sUs S 1 w) n p) i = false := by (show (fU2 (sUs S 0 w) n i != fU2 (sUs S 1 w) n i) = false; rw [g0, g1]; rfl)
                           rw [bs_t z3, bs_f' z4]
                           exact zf_6_8 (zf_7_8 hih))
                        | (have z3 : (fun p => fU2 (sUs S 0 w) n p && fU2 (sUs S 1 w) n p) i = false := by (show (fU2 (sUs S 0 w) n i && fU2 (sUs S 1 w) n i) = false; rw [g0, g1]; rfl)
                           have z4 : (fun p => fU2 (sUs S 0 w) n p != fU2 (sUs S 1 w) n p) i = true := by (show (fU2 (sUs S 0 w) n i != fU2 (sUs S 1 w) n i) = true; rw [g0, g1]; rfl)
                           rw [bs_f' z3, bs_t z4]
                           exact zf_6_8 (zf_7_8 hih))
      refine z_iload_n 1 dX10_common_0 rfl rfl ?_
      refine z_iconst 2 (v := nI 0) dX10_common_1 rfl rfl ?_
      refine z_bipush 4 (v := nI 7) dX10_common_2 rfl rfl ?_
      refine z_cSI3 7 (tX10_in) kX10_in dX10_common_4 rfl lX10_91 (Nat.le_of_ble_eq_true rfl) ?_
      rintro _ _ ⟨e1, e2⟩
      replace e1 := e1.symm
      replace e2 := e2.symm
      subst e1
      subst e2
      rw [in_k (by decide)]
      refine z_ifb_eq 20 10 dX10_common_7 (by decide) rfl (fun h7 => ?_) (fun h7 => ?_)
      · exact absurd hA1 h7
      · refine z_iload_n 11 dX10_common_10 rfl rfl ?_
        refine z_iconst 12 (v := nI 1) dX10_common_11 rfl rfl ?_
        refine z_bipush 14 (v := nI 9) dX10_common_12 rfl rfl ?_
        refine z_cSI3 17 (tX10_in) kX10_in dX10_common_14 rfl lX10_91 (Nat.le_of_ble_eq_true rfl) ?_
        rintro _ _ ⟨e1, e2⟩
        replace e1 := e1.symm
        replace e2 := e2.symm
        subst e1
        subst e2
        refine z_ifb_ne 22 20 dX10_common_17 (by decide) rfl (fun h17 => ?_) (fun h17 => ?_)
        · refine z_aload_n 23 dX10_common_22 rfl rfl ?_
          refine z_iconst 24 (v := nI 0) dX10_common_23 rfl rfl ?_
          refine z_cVI1 27 (tX10_isLand (by assumption) (by assumption) (by omega)) kX10_isLand dX10_common_24 rfl lX10_148 (by first | assumption | rfl) (Nat.le_of_ble_eq_true rfl) ?_
          rintro _ _ ⟨e1, e2⟩
          replace e1 := e1.symm
          replace e2 := e2.symm
          subst e1
          subst e2
          refine z_ifb_eq 38 30 dX10_common_27 (by decide) rfl (fun h27 => ?_) (fun h27 => ?_)
          · exact absurd hC.1 h27
          · refine z_aload_n 31 dX10_common_30 rfl rfl ?_
            refine z_iconst 32 (v := nI 1) dX10_common_31 rfl rfl ?_
            refine z_cVI1 35 (tX10_isLand (by assumption) (by assumption) (by omega)) kX10_isLand dX10_common_32 rfl lX10_148 (by first | assumption | rfl) (Nat.le_of_ble_eq_true rfl) ?_
            rintro _ _ ⟨e1, e2⟩
            replace e1 := e1.symm
            replace e2 := e2.symm
            subst e1
            subst e2
            refine z_ifb_ne 44 38 dX10_common_35 (by decide) rfl (fun h35 => ?_) (fun h35 => ?_)
            · refine z_aload_n 45 dX10_common_44 rfl rfl ?_
              refine z_iload_n 46 dX10_common_45 rfl rfl ?_
              refine z_cVI1 49 (tX10_isWord (by assumption) (by assumption)) kX10_isWord dX10_common_46 rfl lX10_151 (by first | assumption | rfl) (Nat.le_of_ble_eq_true rfl) ?_
              rintro _ _ ⟨e1, e2⟩
              replace e1 := e1.symm
              replace e2 := e2.symm
              subst e1
              subst e2
              refine z_ifb_ne 54 52 dX10_common_49 (by decide) rfl (fun h49 => ?_) (fun h49 => ?_)
              · refine z_iconst 55 (v := nI 0) dX10_common_54 rfl rfl ?_
                refine zs_istore_n_3_8 56 rfl dX10_common_55 rfl rfl ?_
                refine z_iconst 57 (v := nI 0) dX10_common_56 rfl rfl ?_
                refine zs_istore_4_8 59 rfl dX10_common_57 rfl rfl ?_
                refine z_iconst 60 (v := nI 0) dX10_common_59 rfl rfl ?_
                refine zs_istore_5_8 62 rfl dX10_common_60 rfl rfl ?_
                exact loop 0 (Nat.zero_le _)
              · exact absurd (inN_nI hwb (by omega)) h49
            · exact absurd hC.2 h35
        · exact absurd hA2 h17
    · rw [if_neg (fun z => hwb ((inN_nI' (by omega)).mp z))] at e0
      refine z_iload_n 1 dX10_common_0 rfl rfl ?_
      refine z_iconst 2 (v := nI 0) dX10_common_1 rfl rfl ?_
      refine z_bipush 4 (v := nI 7) dX10_common_2 rfl rfl ?_
      refine z_cSI3 7 (tX10_in) kX10_in dX10_common_4 rfl lX10_91 (Nat.le_of_ble_eq_true rfl) ?_
      rintro _ _ ⟨e1, e2⟩
      replace e1 := e1.symm
      replace e2 := e2.symm
      subst e1
      subst e2
      rw [in_k (by decide)]
      refine z_ifb_eq 20 10 dX10_common_7 (by decide) rfl (fun h7 => ?_) (fun h7 => ?_)
      · exact absurd hA1 h7
      · refine z_iload_n 11 dX10_common_10 rfl rfl ?_
        refine z_iconst 12 (v := nI 1) dX10_common_11 rfl rfl ?_
        refine z_bipush 14 (v := nI 9) dX10_common_12 rfl rfl ?_
        refine z_cSI3 17 (tX10_in) kX10_in dX10_common_14 rfl lX10_91 (Nat.le_of_ble_eq_true rfl) ?_
        rintro _ _ ⟨e1, e2⟩
        replace e1 := e1.symm
        replace e2 := e2.symm
        subst e1
        subst e2
        refine z_ifb_ne 22 20 dX10_common_17 (by decide) rfl (fun h17 => ?_) (fun h17 => ?_)
        · refine z_aload_n 23 dX10_common_22 rfl rfl ?_
          refine z_iconst 24 (v := nI 0) dX10_common_23 rfl rfl ?_
          refine z_cVI1 27 (tX10_isLand (by assumption) (by assumption) (by omega)) kX10_isLand dX10_common_24 rfl lX10_148 (by first | assumption | rfl) (Nat.le_of_ble_eq_true rfl) ?_
          rintro _ _ ⟨e1, e2⟩
          replace e1 := e1.symm
          replace e2 := e2.symm
          subst e1
          subst e2
          refine z_ifb_eq 38 30 dX10_common_27 (by decide) rfl (fun h27 => ?_) (fun h27 => ?_)
          · exact absurd hC.1 h27
          · refine z_aload_n 31 dX10_common_30 rfl rfl ?_
            refine z_iconst 32 (v := nI 1) dX10_common_31 rfl rfl ?_
            refine z_cVI1 35 (tX10_isLand (by assumption) (by assumption) (by omega)) kX10_isLand dX10_common_32 rfl lX10_148 (by first | assumption | rfl) (Nat.le_of_ble_eq_true rfl) ?_
            rintro _ _ ⟨e1, e2⟩
            replace e1 := e1.symm
            replace e2 := e2.symm
            subst e1
            subst e2
            refine z_ifb_ne 44 38 dX10_common_35 (by decide) rfl (fun h35 => ?_) (fun h35 => ?_)
            · refine z_aload_n 45 dX10_common_44 rfl rfl ?_
              refine z_iload_n 46 dX10_common_45 rfl rfl ?_
              refine z_cVI1 49 (tX10_isWord (by assumption) (by assumption)) kX10_isWord dX10_common_46 rfl lX10_151 (by first | assumption | rfl) (Nat.le_of_ble_eq_true rfl) ?_
              rintro _ _ ⟨e1, e2⟩
              replace e1 := e1.symm
              replace e2 := e2.symm
              subst e1
              subst e2
              refine z_ifb_ne 54 52 dX10_common_49 (by decide) rfl (fun h49 => ?_) (fun h49 => ?_)
              · exact absurd ((inN_nI' (by omega)).mp h49) hwb
              · refine z_iconst 53 (v := (-1)) dX10_common_52 rfl rfl ?_
                refine z_ri dX10_common_53 rfl ?_
                exact qm0 e0 hX Fr.rf
            · exact absurd hC.2 h35
        · exact absurd hA2 h17
