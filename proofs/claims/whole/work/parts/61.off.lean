/-! off -/
abbrev ofP (w k i v : Nat) : Prop := i ≤ k ∧ ¬ (v = w ↔ i < k)
def ofN (S : sS) (t : Nat → Nat) (n w k : Nat) : Nat → Nat → Nat
  | 0 => eW w
  | i + 1 => fun v => if ofP w k i v then 0 else nxO S (t ((0 + 2 * i) % n)) (t ((0 + 2 * i + 1) % n)) (ofN S t n w k i) v
theorem ofN_sum {S : sS} (hW : WF S) {n : Nat} {t : Nat → Nat} (hT : TbOK S n t) {w : Nat} (hw : w < sBw S 0) (k : Nat) : ∀ i, fsum (ofN S t n w k i) (sBw S 0) ≤ 24 ^ i := by
  have hn : 0 < n := by have := hT.1.1; omega
  intro i
  induction i with
  | zero => show fsum (eW w) (sBw S 0) ≤ 1; rw [eW_sum hw]; exact Nat.le_refl _
  | succ i ih =>
    have h1 := nxO_sum hW (hT.2 _ (Nat.mod_lt (0 + 2 * i + 1) hn)).1 (t ((0 + 2 * i) % n)) (ofN S t n w k i)
    have h2 : fsum (ofN S t n w k (i + 1)) (sBw S 0) ≤ fsum (nxO S (t ((0 + 2 * i) % n)) (t ((0 + 2 * i + 1) % n)) (ofN S t n w k i)) (sBw S 0) := fsum_le _ (fun v hv => by
      show (if ofP w k i v then 0 else nxO S (t ((0 + 2 * i) % n)) (t ((0 + 2 * i + 1) % n)) (ofN S t n w k i) v) ≤ _
      split
      · exact Nat.zero_le _
      · exact Nat.le_refl _)
    rw [Nat.pow_succ]
    omega
theorem ofN_le {S : sS} (hW : WF S) {n : Nat} {t : Nat → Nat} (hT : TbOK S n t) {w : Nat} (hw : w < sBw S 0) (k : Nat) {i v : Nat} (hi : i ≤ 4) (hv : v < sBw S 0) : ofN S t n w k i v ≤ 331776 := by
  have h1 := ofN_sum hW hT hw k i
  have h2 := fsum_one (f := ofN S t n w k i) (sBw S 0) v hv
  have h3 := p24 hi
  omega
set_option maxRecDepth 20000 in
theorem tX5_reachOffAt {E : zE} {d : Nat} {σ : zM} {S : sS} {n w v k : Nat} {t : Nat → Nat} (hW : WF S) (hT : TbOK S n t) (hD : RdT σ n (sBw S 0) t) (hA : Adj S σ n 0 t) (hw : w < sBw S 0) (hv : v < sBw S 0) (hk : k < 4) : Ret E mX5_reachOffAt (d + 1) [zr E 13, .int (nI w), .int (nI v), .int (nI k)] σ (qJ fun x τ => x = lN (ofN S t n w k (n / 2) v) ∧ Fr fOd σ τ) := by
  have h8 := hW.2.1.1
  have hb8 := bw_le hW (show 0 < 2 by omega)
  have n2 := hT.1.1
  have n8 := hT.1.2.1
  refine Ret.of [some (zr E 13), some (.int (nI w)), some (.int (nI v)), some (.int (nI k)), none, none, none] (by decide +kernel) (Nat.le_of_ble_eq_true rfl) rfl ?_
  have loop : ∀ i, i ≤ n / 2 → ∀ y5 y6 τ, Fr fOd σ τ → OdX τ (sBw S 0) (ofN S t n w k i) → At E mX5_reachOffAt (d + 1) (qJ fun x τ => x = lN (ofN S t n w k (n / 2) v) ∧ Fr fOd σ τ) 8 [some (zr E 13), some (.int (nI w)), some (.int (nI v)), some (.int (nI k)), some (.int (nI i)), y5, y6] [] τ := by
    refine z_up (fun i hi ih y5 y6 τ hF hO => ?_)
    have hD' := hD.fr hF (by omega) (by omega) (by intros; omega)
    by_cases hie : i = n / 2
    · rw [hie] at hO ⊢
      refine z_iload 10 dX5_reachOffAt_8 rfl rfl ?_
      refine z_aload_n 11 dX5_reachOffAt_10 rfl rfl ?_
      refine gX5_43 14 rfl dX5_reachOffAt_11 rfl (by first | assumption | rfl) ?_
      rw [hD'.1]
      refine z_iconst 15 (v := nI 2) dX5_reachOffAt_14 rfl rfl ?_
      refine z_idiv 16 dX5_reachOffAt_15 rfl (by decide) ?_
      rw [pk_div (by omega) (by decide) (by decide)]
      refine z_icmp_ge 97 19 dX5_reachOffAt_16 (by decide) rfl (fun h16 => ?_) (fun h16 => ?_)
      · (try rw [nI_leI (by omega) (by omega)] at h16)
        refine z_aload_n 98 dX5_reachOffAt_97 rfl rfl ?_
        refine gX5_21 101 rfl dX5_reachOffAt_98 rfl (by first | assumption | rfl) ?_
        refine z_iload_n 102 dX5_reachOffAt_101 rfl rfl ?_
        refine z_laldn 103 dX5_reachOffAt_102 rfl (by first | assumption | rfl) (by omega) ?_
        rw [hO v hv]
        refine z_rl dX5_reachOffAt_103 rfl ?_
        exact ⟨rfl, hF⟩
      · (try rw [nI_leI (by omega) (by omega)] at h16)
        omega
    · have hil : i < n / 2 := by omega
      have u1 := (hT.2 _ (Nat.mod_lt (0 + 2 * i) (show n > 0 by omega))).1
      have u2 := (hT.2 _ (Nat.mod_lt (0 + 2 * i + 1) (show n > 0 by omega))).1
      have hob : ∀ x, x < sBw S 0 → ofN S t n w k i x < 2 ^ 63 := fun x hx => Nat.lt_of_le_of_lt (ofN_le hW hT hw k (show i ≤ 4 by omega) hx) (by decide)
      have es : ∀ x, ofN S t n w k (i + 1) x = if ofP w k i x then 0 else nxO S (t ((0 + 2 * i) % n)) (t ((0 + 2 * i + 1) % n)) (ofN S t n w k i) x := fun x => rfl
      have inner : ∀ j, j ≤ sBw S 0 → ∀ y6 τ, Fr fOd σ τ → (∀ x, x < sBw S 0 → gl τ 17 x = lN (if x < j then ofN S t n w k (i + 1) x else nxO S (t ((0 + 2 * i) % n)) (t ((0 + 2 * i + 1) % n)) (ofN S t n w k i) x)) → At E mX5_reachOffAt (d + 1) (qJ fun x τ => x = lN (ofN S t n w k (n / 2) v) ∧ Fr fOd σ τ) 33 [some (zr E 13), some (.int (nI w)), some (.int (nI v)), some (.int (nI k)), some (.int (nI i)), some (.int (nI j)), y6] [] τ := by
        refine z_up (fun j hj jh y6 τ hF hN => ?_)
        have hr' : gi τ 13 6 = nI (sBw S 0) := (hF.gi (by omega)).trans hD.2.1
        by_cases hje : j = sBw S 0
        · have hO' : OdX τ (sBw S 0) (ofN S t n w k (i + 1)) := fun x hx => by
            have := hN x hx
            rw [if_pos (by omega)] at this
            exact this
          refine z_iload 35 dX5_reachOffAt_33 rfl rfl ?_
          refine z_aload_n 36 dX5_reachOffAt_35 rfl rfl ?_
          refine gX5_34 39 rfl dX5_reachOffAt_36 rfl (by first | assumption | rfl) ?_
          rw [hr']
          refine z_icmp_ge 91 42 dX5_reachOffAt_39 (by decide) rfl (fun h39 => ?_) (fun h39 => ?_)
          · (try rw [nI_leI (by omega) (by omega)] at h39)
            refine zs_iinc_4_7_1 94 rfl dX5_reachOffAt_91 rfl rfl ?_
            rw [nI_add]
            refine z_goto 8 dX5_reachOffAt_94 rfl ?_
            exact ih (i + 1) (by omega) (by omega) _ _ τ hF hO'
          · (try rw [nI_leI (by omega) (by omega)] at h39)
            omega
        · have hjl : j < sBw S 0 := by omega
          by_cases hik : i ≤ k
          · have keep : ¬ ofP w k i j → ∀ y6, At E mX5_reachOffAt (d + 1) (qJ fun x τ => x = lN (ofN S t n w k (n / 2) v) ∧ Fr fOd σ τ) 85 [some (zr E 13), some (.int (nI w)), some (.int (nI v)), some (.int (nI k)), some (.int (nI i)), some (.int (nI j)), y6] [] τ := by
              intro hc y6
              refine zs_iinc_5_7_1 88 rfl dX5_reachOffAt_85 rfl rfl ?_
              rw [nI_add]
              refine z_goto 33 dX5_reachOffAt_88 rfl ?_
              exact jh (j + 1) (by omega) (by omega) _ τ hF (fun x hx => by
                rw [hN x hx]
                by_cases hxj : x = j
                · rw [hxj, if_neg (Nat.lt_irrefl j), if_pos (Nat.lt_succ_self j), es, if_neg hc]
                · by_cases hlt : x < j
                  · rw [if_pos hlt, if_pos (by omega)]
                  · rw [if_neg hlt, if_neg (by omega)])
            have drop : ofP w k i j → ∀ y6, At E mX5_reachOffAt (d + 1) (qJ fun x τ => x = lN (ofN S t n w k (n / 2) v) ∧ Fr fOd σ τ) 77 [some (zr E 13), some (.int (nI w)), some (.int (nI v)), some (.int (nI k)), some (.int (nI i)), some (.int (nI j)), y6] [] τ := by
              intro hc y6
              refine z_aload_n 78 dX5_reachOffAt_77 rfl rfl ?_
              refine gX5_21 81 rfl dX5_reachOffAt_78 rfl (by first | assumption | rfl) ?_
              refine z_iload 83 dX5_reachOffAt_81 rfl rfl ?_
              refine z_lconst 84 (v := 0) dX5_reachOffAt_83 rfl rfl ?_
              refine z_lastn 85 dX5_reachOffAt_84 rfl (by first | assumption | rfl) (by omega) ?_
              refine zs_iinc_5_7_1 88 rfl dX5_reachOffAt_85 rfl rfl ?_
              rw [nI_add]
              refine z_goto 33 dX5_reachOffAt_88 rfl ?_
              exact jh (j + 1) (by omega) (by omega) _ _ (hF.sl _ (Or.inl rfl)) (fun x hx => by
                rw [gl_sl]
                by_cases hxj : x = j
                · rw [if_pos ⟨rfl, hxj⟩, hxj, if_pos (Nat.lt_succ_self j), es, if_pos hc]; rfl
                · rw [if_neg (fun z => hxj z.2), hN x hx]
                  by_cases hlt : x < j
                  · rw [if_pos hlt, if_pos (by omega)]
                  · rw [if_neg hlt, if_neg (by omega)])
            refine z_iload 35 dX5_reachOffAt_33 rfl rfl ?_
            refine z_aload_n 36 dX5_reachOffAt_35 rfl rfl ?_
            refine gX5_34 39 rfl dX5_reachOffAt_36 rfl (by first | assumption | rfl) ?_
            rw [hr']
            refine z_icmp_ge 91 42 dX5_reachOffAt_39 (by decide) rfl (fun h39 => ?_) (fun h39 => ?_)
            · (try rw [nI_leI (by omega) (by omega)] at h39)
              omega
            · (try rw [nI_leI (by omega) (by omega)] at h39)
              refine z_iload 44 dX5_reachOffAt_42 rfl rfl ?_
              refine z_iload_n 45 dX5_reachOffAt_44 rfl rfl ?_
              refine z_icmp_gt 91 48 dX5_reachOffAt_45 (by decide) rfl (fun h45 => ?_) (fun h45 => ?_)
              · (try rw [nI_ltI (by omega) (by omega)] at h45)
                omega
              · (try rw [nI_ltI (by omega) (by omega)] at h45)
                refine z_iload 50 dX5_reachOffAt_48 rfl rfl ?_
                refine z_iload_n 51 dX5_reachOffAt_50 rfl rfl ?_
                refine z_icmp_ne 58 54 dX5_reachOffAt_51 (by decide) rfl (fun h51 => ?_) (fun h51 => ?_)
                · (try rw [nI_eq (by omega) (by omega)] at h51)
                  refine z_iconst 59 (v := nI 0) dX5_reachOffAt_58 rfl rfl ?_
                  refine zs_istore_6_7 61 rfl dX5_reachOffAt_59 rfl rfl ?_
                  refine z_iload 63 dX5_reachOffAt_61 rfl rfl ?_
                  refine z_iload 65 dX5_reachOffAt_63 rfl rfl ?_
                  refine z_iload_n 66 dX5_reachOffAt_65 rfl rfl ?_
                  refine z_icmp_ne 73 69 dX5_reachOffAt_66 (by decide) rfl (fun h66 => ?_) (fun h66 => ?_)
                  · (try rw [nI_eq (by omega) (by omega)] at h66)
                    refine z_iconst 74 (v := nI 0) dX5_reachOffAt_73 rfl rfl ?_
                    refine z_icmp_ne 85 77 dX5_reachOffAt_74 (by decide) rfl (fun h74 => ?_) (fun h74 => ?_)
                    · (try rw [nI_eq (by omega) (by omega)] at h74)
                      first
                        | (exfalso; omega)
                        | exact keep (by omega) _
                    · (try rw [nI_eq (by omega) (by omega)] at h74)
                      first
                        | (exfalso; omega)
                        | exact drop (by omega) _
                  · (try rw [nI_eq (by omega) (by omega)] at h66)
                    refine z_iconst 70 (v := nI 1) dX5_reachOffAt_69 rfl rfl ?_
                    refine z_goto 74 dX5_reachOffAt_70 rfl ?_
                    refine z_icmp_ne 85 77 dX5_reachOffAt_74 (by decide) rfl (fun h74 => ?_) (fun h74 => ?_)
                    · (try rw [nI_eq (by omega) (by omega)] at h74)
                      first
                        | (exfalso; omega)
                        | exact keep (by omega) _
                    · (try rw [nI_eq (by omega) (by omega)] at h74)
                      first
                        | (exfalso; omega)
                        | exact drop (by omega) _
                · (try rw [nI_eq (by omega) (by omega)] at h51)
                  refine z_iconst 55 (v := nI 1) dX5_reachOffAt_54 rfl rfl ?_
                  refine z_goto 59 dX5_reachOffAt_55 rfl ?_
                  refine zs_istore_6_7 61 rfl dX5_reachOffAt_59 rfl rfl ?_
                  refine z_iload 63 dX5_reachOffAt_61 rfl rfl ?_
                  refine z_iload 65 dX5_reachOffAt_63 rfl rfl ?_
                  refine z_iload_n 66 dX5_reachOffAt_65 rfl rfl ?_
                  refine z_icmp_ne 73 69 dX5_reachOffAt_66 (by decide) rfl (fun h66 => ?_) (fun h66 => ?_)
                  · (try rw [nI_eq (by omega) (by omega)] at h66)
                    refine z_iconst 74 (v := nI 0) dX5_reachOffAt_73 rfl rfl ?_
                    refine z_icmp_ne 85 77 dX5_reachOffAt_74 (by decide) rfl (fun h74 => ?_) (fun h74 => ?_)
                    · (try rw [nI_eq (by omega) (by omega)] at h74)
                      first
                        | (exfalso; omega)
                        | exact keep (by omega) _
                    · (try rw [nI_eq (by omega) (by omega)] at h74)
                      first
                        | (exfalso; omega)
                        | exact drop (by omega) _
                  · (try rw [nI_eq (by omega) (by omega)] at h66)
                    refine z_iconst 70 (v := nI 1) dX5_reachOffAt_69 rfl rfl ?_
                    refine z_goto 74 dX5_reachOffAt_70 rfl ?_
                    refine z_icmp_ne 85 77 dX5_reachOffAt_74 (by decide) rfl (fun h74 => ?_) (fun h74 => ?_)
                    · (try rw [nI_eq (by omega) (by omega)] at h74)
                      first
                        | (exfalso; omega)
                        | exact keep (by omega) _
                    · (try rw [nI_eq (by omega) (by omega)] at h74)
                      first
                        | (exfalso; omega)
                        | exact drop (by omega) _
          · have hO' : OdX τ (sBw S 0) (ofN S t n w k (i + 1)) := fun x hx => by
              rw [hN x hx, es x, if_neg (show ¬ ofP w k i x from fun z => hik z.1)]
              split <;> rfl
            refine z_iload 35 dX5_reachOffAt_33 rfl rfl ?_
            refine z_aload_n 36 dX5_reachOffAt_35 rfl rfl ?_
            refine gX5_34 39 rfl dX5_reachOffAt_36 rfl (by first | assumption | rfl) ?_
            rw [hr']
            refine z_icmp_ge 91 42 dX5_reachOffAt_39 (by decide) rfl (fun h39 => ?_) (fun h39 => ?_)
            · (try rw [nI_leI (by omega) (by omega)] at h39)
              omega
            · (try rw [nI_leI (by omega) (by omega)] at h39)
              refine z_iload 44 dX5_reachOffAt_42 rfl rfl ?_
              refine z_iload_n 45 dX5_reachOffAt_44 rfl rfl ?_
              refine z_icmp_gt 91 48 dX5_reachOffAt_45 (by decide) rfl (fun h45 => ?_) (fun h45 => ?_)
              · (try rw [nI_ltI (by omega) (by omega)] at h45)
                refine zs_iinc_4_7_1 94 rfl dX5_reachOffAt_91 rfl rfl ?_
                rw [nI_add]
                refine z_goto 8 dX5_reachOffAt_94 rfl ?_
                exact ih (i + 1) (by omega) (by omega) _ _ τ hF hO'
              · (try rw [nI_ltI (by omega) (by omega)] at h45)
                omega
      refine z_iload 10 dX5_reachOffAt_8 rfl rfl ?_
      refine z_aload_n 11 dX5_reachOffAt_10 rfl rfl ?_
      refine gX5_43 14 rfl dX5_reachOffAt_11 rfl (by first | assumption | rfl) ?_
      rw [hD'.1]
      refine z_iconst 15 (v := nI 2) dX5_reachOffAt_14 rfl rfl ?_
      refine z_idiv 16 dX5_reachOffAt_15 rfl (by decide) ?_
      rw [pk_div (by omega) (by decide) (by decide)]
      refine z_icmp_ge 97 19 dX5_reachOffAt_16 (by decide) rfl (fun h16 => ?_) (fun h16 => ?_)
      · (try rw [nI_leI (by omega) (by omega)] at h16)
        omega
      · (try rw [nI_leI (by omega) (by omega)] at h16)
        refine z_aload_n 20 dX5_reachOffAt_19 rfl rfl ?_
        refine z_aload_n 21 dX5_reachOffAt_20 rfl rfl ?_
        refine z_iconst 22 (v := nI 0) dX5_reachOffAt_21 rfl rfl ?_
        refine z_iload 24 dX5_reachOffAt_22 rfl rfl ?_
        refine z_cVI2 27 (tX5_stepBase hD' (by omega) n8 (show 0 < 8 by omega) (show i < 8 by omega)) kX5_stepBase dX5_reachOffAt_24 rfl lX5_53 (by first | assumption | rfl) (Nat.le_of_ble_eq_true rfl) ?_
        rintro _ _ ⟨e1, e2⟩
        replace e1 := e1.symm
        replace e2 := e2.symm
        subst e1
        subst e2
        refine z_cVV1 30 (tX5_pass hW (by omega) (by omega) u2 hD'.2.1 ((hA i hil).fr hF (by intros; omega)) hO hob) kX5_pass dX5_reachOffAt_27 rfl lX5_56 (by first | assumption | rfl) (Nat.le_of_ble_eq_true rfl) ?_
        rintro τ1 ⟨hF1, hO1⟩
        refine z_iconst 31 (v := nI 0) dX5_reachOffAt_30 rfl rfl ?_
        refine zs_istore_5_7 33 rfl dX5_reachOffAt_31 rfl rfl ?_
        exact inner 0 (Nat.zero_le _) _ τ1 (hF.tr hF1 (fun _ _ h => h) (fun _ _ h => h)) (fun x hx => by rw [if_neg (Nat.not_lt_zero x)]; exact hO1 x hx)
  refine z_aload_n 1 dX5_reachOffAt_0 rfl rfl ?_
  refine z_iload_n 2 dX5_reachOffAt_1 rfl rfl ?_
  refine z_cVV1 5 (tX5_begin hD.2.1 hb8 hw) kX5_begin dX5_reachOffAt_2 rfl lX5_60 (by first | assumption | rfl) (Nat.le_of_ble_eq_true rfl) ?_
  rintro τ1 ⟨hF1, hO1⟩
  refine z_iconst 6 (v := nI 0) dX5_reachOffAt_5 rfl rfl ?_
  refine zs_istore_4_7 8 rfl dX5_reachOffAt_6 rfl rfl ?_
  exact loop 0 (Nat.zero_le _) _ _ τ1 (hF1.mono (by intros; omega)) hO1
abbrev ofOK (S : sS) (r w v k : Int32) : Prop := inN r 6 ∧ inN w (sBw S 0) ∧ inN v (sBw S 0) ∧ ¬ w = v ∧ inN k 4
def ofR (S : sS) (o : sRow) (w v k : Nat) : Int32 × sS := if ¬ k < sSz o / 2 then (-1, S) else if odR S o 0 w v = 0 then sFd S 4 else sTell S (ofN S (gOf o) (sSz o) w k (sSz o / 2) v) (odR S o 0 w v) (nI 1)
def spOff (S : sS) (r w v k : Int32) : Int32 × sS := if ¬ ofOK S r w v k then (-1, S) else if ¬ sTf S (sR S (zx r)) = 0 then sFd S (sTf S (sR S (zx r))) else ofR S (sR S (zx r)) (zx w) (zx v) (zx k)
set_option maxRecDepth 20000 in
theorem tX9_off {E : zE} {d : Nat} {σ : zM} {S : sS} {r w v k : Int32} (hW : WF S) (hX : RX S σ) : Ret E mX9_off (d + 5) [zr E 0, .int r, .int w, .int v, .int k] σ (qX σ (spOff S r w v k)) := by
  have h8 := hW.2.1.1
  have hb8 := bw_le hW (show 0 < 2 by omega)
  by_cases hA : ¬ ofOK S r w v k
  · refine Ret.of [some (zr E 0), some (.int r), some (.int w), some (.int v), some (.int k), none, none, none] (by decide +kernel) (Nat.le_of_ble_eq_true rfl) rfl ?_
    refine z_iload_n 1 dX9_off_0 rfl rfl ?_
    refine z_cSI1 4 (tX9_isRow) kX9_isRow dX9_off_1 rfl lX9_83 (Nat.le_of_ble_eq_true rfl) ?_
    rintro _ _ ⟨e1, e2⟩
    replace e1 := e1.symm
    replace e2 := e2.symm
    subst e1
    subst e2
    refine z_ifb_eq 39 7 dX9_off_4 (by decide) rfl (fun h4 => ?_) (fun h4 => ?_)
    · refine z_iconst 40 (v := (-1)) dX9_off_39 rfl rfl ?_
      refine z_ri dX9_off_40 rfl ?_
      exact qx0 (if_pos hA) hX Fr.rf
    · refine z_aload_n 8 dX9_off_7 rfl rfl ?_
      refine z_iload_n 9 dX9_off_8 rfl rfl ?_
      refine z_cVI1 12 (tX9_isWord (by assumption) (by assumption)) kX9_isWord dX9_off_9 rfl lX9_165 (by first | assumption | rfl) (Nat.le_of_ble_eq_true rfl) ?_
      rintro _ _ ⟨e1, e2⟩
      replace e1 := e1.symm
      replace e2 := e2.symm
      subst e1
      subst e2
      refine z_ifb_eq 39 15 dX9_off_12 (by decide) rfl (fun h12 => ?_) (fun h12 => ?_)
      · refine z_iconst 40 (v := (-1)) dX9_off_39 rfl rfl ?_
        refine z_ri dX9_off_40 rfl ?_
        exact qx0 (if_pos hA) hX Fr.rf
      · refine z_aload_n 16 dX9_off_15 rfl rfl ?_
        refine z_iload_n 17 dX9_off_16 rfl rfl ?_
        refine z_cVI1 20 (tX9_isWord (by assumption) (by assumption)) kX9_isWord dX9_off_17 rfl lX9_165 (by first | assumption | rfl) (Nat.le_of_ble_eq_true rfl) ?_
        rintro _ _ ⟨e1, e2⟩
        replace e1 := e1.symm
        replace e2 := e2.symm
        subst e1
        subst e2
        refine z_ifb_eq 39 23 dX9_off_20 (by decide) rfl (fun h20 => ?_) (fun h20 => ?_)
        · refine z_iconst 40 (v := (-1)) dX9_off_39 rfl rfl ?_
          refine z_ri dX9_off_40 rfl ?_
          exact qx0 (if_pos hA) hX Fr.rf
        · refine z_iload_n 24 dX9_off_23 rfl rfl ?_
          refine z_iload_n 25 dX9_off_24 rfl rfl ?_
          refine z_icmp_eq 39 28 dX9_off_25 (by decide) rfl (fun h25 => ?_) (fun h25 => ?_)
          · refine z_iconst 40 (v := (-1)) dX9_off_39 rfl rfl ?_
            refine z_ri dX9_off_40 rfl ?_
            exact qx0 (if_pos hA) hX Fr.rf
          · refine z_iload 30 dX9_off_28 rfl rfl ?_
            refine z_if_lt 39 33 dX9_off_30 (by decide) rfl (fun h30 => ?_) (fun h30 => ?_)
            · refine z_iconst 40 (v := (-1)) dX9_off_39 rfl rfl ?_
              refine z_ri dX9_off_40 rfl ?_
              exact qx0 (if_pos hA) hX Fr.rf
            · refine z_iload 35 dX9_off_33 rfl rfl ?_
              refine z_iconst 36 (v := nI 4) dX9_off_35 rfl rfl ?_
              refine z_icmp_lt 41 39 dX9_off_36 (by decide) rfl (fun h36 => ?_) (fun h36 => ?_)
              · exact absurd ⟨h4, h12, h20, h25, inN_t (by decide) h30 (Int32.not_le.mpr h36)⟩ hA
              · refine z_iconst 40 (v := (-1)) dX9_off_39 rfl rfl ?_
                refine z_ri dX9_off_40 rfl ?_
                exact qx0 (if_pos hA) hX Fr.rf
  have e0 : spOff S r w v k = _ := if_neg hA
  have hA := Classical.not_not.mp hA
  have hA' := hA
  obtain ⟨a1, a2, a3, a4, a5⟩ := hA
  obtain ⟨r, hr, rfl⟩ := inN_of a1
  obtain ⟨w, hw, rfl⟩ := inN_of a2
  obtain ⟨v, hv, rfl⟩ := inN_of a3
  obtain ⟨k, hk, rfl⟩ := inN_of a5
  obtain ⟨b1, b2, b3, b4, b5⟩ := hA'
  rw [zx_nI (by omega), zx_nI (by omega), zx_nI (by omega), zx_nI (by omega)] at e0
  have hpl := sTf_lt S (sR S r)
  have hkr := kd_r hr
  refine Ret.of [some (zr E 0), some (.int (nI r)), some (.int (nI w)), some (.int (nI v)), some (.int (nI k)), none, none, none] (by decide +kernel) (Nat.le_of_ble_eq_true rfl) rfl ?_
  by_cases hD : sTf S (sR S r) = 0
  · rw [if_neg (fun z => z hD)] at e0
    obtain ⟨q, hq, hT, hqg⟩ := sTf0 hD
    have hsz : sSz (sR S r) = q.1 := by rw [hq]; rfl
    have hsg : gi σ (24 + 2 * r) 1 = nI q.1 := by
      have h1 := hX.1 r hr
      rw [show S.1 r = sR S r from rfl, hq] at h1
      exact h1.2.1
    have n2 := hT.1.1
    have n8 := hT.1.2.1
    have eh : odR S (sR S r) 0 w v = odN S (gOf (sR S r)) q.1 0 (eW w) (q.1 / 2) v := by unfold odR; rw [hsz]
    unfold ofR at e0
    rw [eh, hsz] at e0
    have o1 := odN_le hW hT 0 hw (q.1 / 2) hv
    have o2 := p24 (show q.1 / 2 ≤ 4 by omega)
    have o3 := ofN_le hW hT hw k (show q.1 / 2 ≤ 4 by omega) hv
    by_cases hK : k < q.1 / 2
    · rw [if_neg (fun z => z hK)] at e0
      by_cases hz : odN S (gOf (sR S r)) q.1 0 (eW w) (q.1 / 2) v = 0
      · rw [if_pos hz] at e0
        refine z_iload_n 1 dX9_off_0 rfl rfl ?_
        refine z_cSI1 4 (tX9_isRow) kX9_isRow dX9_off_1 rfl lX9_83 (Nat.le_of_ble_eq_true rfl) ?_
        rintro _ _ ⟨e1, e2⟩
        replace e1 := e1.symm
        replace e2 := e2.symm
        subst e1
        subst e2
        refine z_ifb_eq 39 7 dX9_off_4 (by decide) rfl (fun h4 => ?_) (fun h4 => ?_)
        · exact absurd b1 h4
        · refine z_aload_n 8 dX9_off_7 rfl rfl ?_
          refine z_iload_n 9 dX9_off_8 rfl rfl ?_
          refine z_cVI1 12 (tX9_isWord (by assumption) (by assumption)) kX9_isWord dX9_off_9 rfl lX9_165 (by first | assumption | rfl) (Nat.le_of_ble_eq_true rfl) ?_
          rintro _ _ ⟨e1, e2⟩
          replace e1 := e1.symm
          replace e2 := e2.symm
          subst e1
          subst e2
          refine z_ifb_eq 39 15 dX9_off_12 (by decide) rfl (fun h12 => ?_) (fun h12 => ?_)
          · exact absurd b2 h12
          · refine z_aload_n 16 dX9_off_15 rfl rfl ?_
            refine z_iload_n 17 dX9_off_16 rfl rfl ?_
            refine z_cVI1 20 (tX9_isWord (by assumption) (by assumption)) kX9_isWord dX9_off_17 rfl lX9_165 (by first | assumption | rfl) (Nat.le_of_ble_eq_true rfl) ?_
            rintro _ _ ⟨e1, e2⟩
            replace e1 := e1.symm
            replace e2 := e2.symm
            subst e1
            subst e2
            refine z_ifb_eq 39 23 dX9_off_20 (by decide) rfl (fun h20 => ?_) (fun h20 => ?_)
            · exact absurd b3 h20
            · refine z_iload_n 24 dX9_off_23 rfl rfl ?_
              refine z_iload_n 25 dX9_off_24 rfl rfl ?_
              refine z_icmp_eq 39 28 dX9_off_25 (by decide) rfl (fun h25 => ?_) (fun h25 => ?_)
              · exact absurd h25 b4
              · refine z_iload 30 dX9_off_28 rfl rfl ?_
                refine z_if_lt 39 33 dX9_off_30 (by decide) rfl (fun h30 => ?_) (fun h30 => ?_)
                · (try rw [nI_lt0 (by omega)] at h30)
                  exact h30.elim
                · (try rw [nI_lt0 (by omega)] at h30)
                  refine z_iload 35 dX9_off_33 rfl rfl ?_
                  refine z_iconst 36 (v := nI 4) dX9_off_35 rfl rfl ?_
                  refine z_icmp_lt 41 39 dX9_off_36 (by decide) rfl (fun h36 => ?_) (fun h36 => ?_)
                  · (try rw [nI_ltI (by omega) (by omega)] at h36)
                    refine z_aload_n 42 dX9_off_41 rfl rfl ?_
                    refine z_iload_n 43 dX9_off_42 rfl rfl ?_
                    refine z_cVI1 46 (tX9_tableFault hW hX hr) kX9_tableFault dX9_off_43 rfl lX9_233 (by first | assumption | rfl) (Nat.le_of_ble_eq_true rfl) ?_
                    rintro _ _ ⟨e1, e2⟩
                    replace e1 := e1.symm
                    replace e2 := e2.symm
                    subst e1
                    subst e2
                    rw [hD]
                    refine zs_istore_5_8 48 rfl dX9_off_46 rfl rfl ?_
                    refine z_iload 50 dX9_off_48 rfl rfl ?_
                    refine z_if_eq 63 53 dX9_off_50 (by decide) rfl (fun h50 => ?_) (fun h50 => ?_)
                    · (try rw [nI_eq0 (by omega)] at h50)
                      refine z_iload 65 dX9_off_63 rfl rfl ?_
                      refine z_aload_n 66 dX9_off_65 rfl rfl ?_
                      refine gX9_11 69 rfl dX9_off_66 rfl ?_
                      refine z_iload_n 70 dX9_off_69 rfl rfl ?_
                      refine z_aald1 71 dX9_off_70 rfl (by omega) ?_
                      refine gX9_128 74 rfl dX9_off_71 rfl (by first | assumption | rfl) ?_
                      rw [hsg]
                      refine z_iconst 75 (v := nI 2) dX9_off_74 rfl rfl ?_
                      refine z_idiv 76 dX9_off_75 rfl (by decide) ?_
                      rw [pk_div (by omega) (by decide) (by decide)]
                      refine z_icmp_lt 81 79 dX9_off_76 (by decide) rfl (fun h76 => ?_) (fun h76 => ?_)
                      · (try rw [nI_ltI (by omega) (by omega)] at h76)
                        refine z_aload_n 82 dX9_off_81 rfl rfl ?_
                        refine z_iload_n 83 dX9_off_82 rfl rfl ?_
                        refine z_cVV1 86 (tX9_seatTable (t := gOf (sR S r)) hW hX hr hq hT hqg) kX9_seatTable dX9_off_83 rfl lX9_236 (by first | assumption | rfl) (Nat.le_of_ble_eq_true rfl) ?_
                        rintro τ1 ⟨hF1, hX1, hD1, hS1⟩
                        refine z_aload_n 87 dX9_off_86 rfl rfl ?_
                        refine gX9_60 90 rfl dX9_off_87 rfl ?_
                        refine z_iconst 91 (v := nI 0) dX9_off_90 rfl rfl ?_
                        refine z_iload_n 92 dX9_off_91 rfl rfl ?_
                        refine z_iload_n 93 dX9_off_92 rfl rfl ?_
                        refine z_cVJ3 96 (tX5_reach hW hT hD1 (show 0 < 8 by omega) (adj_of (by omega) hS1 0) hw hv) kX5_reach dX9_off_93 rfl lX9_239 (by first | assumption | rfl) (Nat.le_of_ble_eq_true rfl) ?_
                        rintro _ τ2 ⟨e2, hF2⟩
                        subst e2
                        have hX2 : RX S τ2 := hX1.scr hW (hF2.mono fOd_xS)
                        rw [hz]
                        refine zs_lstore_6_8 98 rfl dX9_off_96 rfl rfl ?_
                        refine z_lload 100 dX9_off_98 rfl rfl ?_
                        refine z_lconst 101 (v := 0) dX9_off_100 rfl rfl ?_
                        refine z_lcmp 102 dX9_off_101 rfl ?_
                        refine z_if_ne 114 105 dX9_off_102 (by decide) rfl (fun h102 => ?_) (fun h102 => ?_)
                        · rw [lg_cmp_eq] at h102
                          exact absurd rfl h102
                        · rw [lg_cmp_eq] at h102
                          refine z_aload_n 106 dX9_off_105 rfl rfl ?_
                          refine gX9_39 109 rfl dX9_off_106 rfl ?_
                          refine z_iconst 110 (v := nI 4) dX9_off_109 rfl rfl ?_
                          refine z_cVI1 113 (tX0_found (by omega) (by omega)) kX0_found dX9_off_110 rfl lX9_87 (by first | assumption | rfl) (Nat.le_of_ble_eq_true rfl) ?_
                          rintro _ _ ⟨e1, e2⟩
                          replace e1 := e1.symm
                          replace e2 := e2.symm
                          subst e1
                          subst e2
                          refine z_ri dX9_off_113 rfl ?_
                          exact qxf hW e0 (by decide) hX2 (hF1.tr hF2 (by intros; omega) (by intros; omega))
                      · (try rw [nI_ltI (by omega) (by omega)] at h76)
                        omega
                    · (try rw [nI_eq0 (by omega)] at h50)
                      exact absurd rfl h50
                  · (try rw [nI_ltI (by omega) (by omega)] at h36)
                    omega
      · rw [if_neg hz] at e0
        refine z_iload_n 1 dX9_off_0 rfl rfl ?_
        refine z_cSI1 4 (tX9_isRow) kX9_isRow dX9_off_1 rfl lX9_83 (Nat.le_of_ble_eq_true rfl) ?_
        rintro _ _ ⟨e1, e2⟩
        replace e1 := e1.symm
        replace e2 := e2.symm
        subst e1
        subst e2
        refine z_ifb_eq 39 7 dX9_off_4 (by decide) rfl (fun h4 => ?_) (fun h4 => ?_)
        · exact absurd b1 h4
        · refine z_aload_n 8 dX9_off_7 rfl rfl ?_
          refine z_iload_n 9 dX9_off_8 rfl rfl ?_
          refine z_cVI1 12 (tX9_isWord (by assumption) (by assumption)) kX9_isWord dX9_off_9 rfl lX9_165 (by first | assumption | rfl) (Nat.le_of_ble_eq_true rfl) ?_
          rintro _ _ ⟨e1, e2⟩
          replace e1 := e1.symm
          replace e2 := e2.symm
          subst e1
          subst e2
          refine z_ifb_eq 39 15 dX9_off_12 (by decide) rfl (fun h12 => ?_) (fun h12 => ?_)
          · exact absurd b2 h12
          · refine z_aload_n 16 dX9_off_15 rfl rfl ?_
            refine z_iload_n 17 dX9_off_16 rfl rfl ?_
            refine z_cVI1 20 (tX9_isWord (by assumption) (by assumption)) kX9_isWord dX9_off_17 rfl lX9_165 (by first | assumption | rfl) (Nat.le_of_ble_eq_true rfl) ?_
            rintro _ _ ⟨e1, e2⟩
            replace e1 := e1.symm
            replace e2 := e2.symm
            subst e1
            subst e2
            refine z_ifb_eq 39 23 dX9_off_20 (by decide) rfl (fun h20 => ?_) (fun h20 => ?_)
            · exact absurd b3 h20
            · refine z_iload_n 24 dX9_off_23 rfl rfl ?_
              refine z_iload_n 25 dX9_off_24 rfl rfl ?_
              refine z_icmp_eq 39 28 dX9_off_25 (by decide) rfl (fun h25 => ?_) (fun h25 => ?_)
              · exact absurd h25 b4
              · refine z_iload 30 dX9_off_28 rfl rfl ?_
                refine z_if_lt 39 33 dX9_off_30 (by decide) rfl (fun h30 => ?_) (fun h30 => ?_)
                · (try rw [nI_lt0 (by omega)] at h30)
                  exact h30.elim
                · (try rw [nI_lt0 (by omega)] at h30)
                  refine z_iload 35 dX9_off_33 rfl rfl ?_
                  refine z_iconst 36 (v := nI 4) dX9_off_35 rfl rfl ?_
                  refine z_icmp_lt 41 39 dX9_off_36 (by decide) rfl (fun h36 => ?_) (fun h36 => ?_)
                  · (try rw [nI_ltI (by omega) (by omega)] at h36)
                    refine z_aload_n 42 dX9_off_41 rfl rfl ?_
                    refine z_iload_n 43 dX9_off_42 rfl rfl ?_
                    refine z_cVI1 46 (tX9_tableFault hW hX hr) kX9_tableFault dX9_off_43 rfl lX9_233 (by first | assumption | rfl) (Nat.le_of_ble_eq_true rfl) ?_
                    rintro _ _ ⟨e1, e2⟩
                    replace e1 := e1.symm
                    replace e2 := e2.symm
                    subst e1
                    subst e2
                    rw [hD]
                    refine zs_istore_5_8 48 rfl dX9_off_46 rfl rfl ?_
                    refine z_iload 50 dX9_off_48 rfl rfl ?_
                    refine z_if_eq 63 53 dX9_off_50 (by decide) rfl (fun h50 => ?_) (fun h50 => ?_)
                    · (try rw [nI_eq0 (by omega)] at h50)
                      refine z_iload 65 dX9_off_63 rfl rfl ?_
                      refine z_aload_n 66 dX9_off_65 rfl rfl ?_
                      refine gX9_11 69 rfl dX9_off_66 rfl ?_
                      refine z_iload_n 70 dX9_off_69 rfl rfl ?_
                      refine z_aald1 71 dX9_off_70 rfl (by omega) ?_
                      refine gX9_128 74 rfl dX9_off_71 rfl (by first | assumption | rfl) ?_
                      rw [hsg]
                      refine z_iconst 75 (v := nI 2) dX9_off_74 rfl rfl ?_
                      refine z_idiv 76 dX9_off_75 rfl (by decide) ?_
                      rw [pk_div (by omega) (by decide) (by decide)]
                      refine z_icmp_lt 81 79 dX9_off_76 (by decide) rfl (fun h76 => ?_) (fun h76 => ?_)
                      · (try rw [nI_ltI (by omega) (by omega)] at h76)
                        refine z_aload_n 82 dX9_off_81 rfl rfl ?_
                        refine z_iload_n 83 dX9_off_82 rfl rfl ?_
                        refine z_cVV1 86 (tX9_seatTable (t := gOf (sR S r)) hW hX hr hq hT hqg) kX9_seatTable dX9_off_83 rfl lX9_236 (by first | assumption | rfl) (Nat.le_of_ble_eq_true rfl) ?_
                        rintro τ1 ⟨hF1, hX1, hD1, hS1⟩
                        refine z_aload_n 87 dX9_off_86 rfl rfl ?_
                        refine gX9_60 90 rfl dX9_off_87 rfl ?_
                        refine z_iconst 91 (v := nI 0) dX9_off_90 rfl rfl ?_
                        refine z_iload_n 92 dX9_off_91 rfl rfl ?_
                        refine z_iload_n 93 dX9_off_92 rfl rfl ?_
                        refine z_cVJ3 96 (tX5_reach hW hT hD1 (show 0 < 8 by omega) (adj_of (by omega) hS1 0) hw hv) kX5_reach dX9_off_93 rfl lX9_239 (by first | assumption | rfl) (Nat.le_of_ble_eq_true rfl) ?_
                        rintro _ τ2 ⟨e2, hF2⟩
                        subst e2
                        have hX2 : RX S τ2 := hX1.scr hW (hF2.mono fOd_xS)
                        refine zs_lstore_6_8 98 rfl dX9_off_96 rfl rfl ?_
                        refine z_lload 100 dX9_off_98 rfl rfl ?_
                        refine z_lconst 101 (v := 0) dX9_off_100 rfl rfl ?_
                        refine z_lcmp 102 dX9_off_101 rfl ?_
                        refine z_if_ne 114 105 dX9_off_102 (by decide) rfl (fun h102 => ?_) (fun h102 => ?_)
                        · rw [lg_cmp_eq] at h102
                          refine z_aload_n 115 dX9_off_114 rfl rfl ?_
                          refine gX9_39 118 rfl dX9_off_115 rfl ?_
                          refine z_aload_n 119 dX9_off_118 rfl rfl ?_
                          refine gX9_60 122 rfl dX9_off_119 rfl ?_
                          refine z_iload_n 123 dX9_off_122 rfl rfl ?_
                          refine z_iload_n 124 dX9_off_123 rfl rfl ?_
                          refine z_iload 126 dX9_off_124 rfl rfl ?_
                          refine z_cVJ3 129 (tX5_reachOffAt hW hT (hD1.fr hF2 (by omega) (by omega) (by intros; omega)) ((adj_of (by omega) hS1 0).fr hF2 (by intros; omega)) hw hv hk) kX5_reachOffAt dX9_off_126 rfl lX9_261 (by first | assumption | rfl) (Nat.le_of_ble_eq_true rfl) ?_
                          rintro _ τ3 ⟨e3, hF3⟩
                          subst e3
                          have hX3 : RX S τ3 := hX2.scr hW (hF3.mono fOd_xS)
                          refine z_lload 131 dX9_off_129 rfl rfl ?_
                          refine z_cVI2 134 (tX0_tell (by omega) (by omega) (by omega)) kX0_tell dX9_off_131 rfl lX9_246 (by first | assumption | rfl) (Nat.le_of_ble_eq_true rfl) ?_
                          rintro _ _ ⟨e1, e2⟩
                          replace e1 := e1.symm
                          replace e2 := e2.symm
                          subst e1
                          subst e2
                          refine z_ri dX9_off_134 rfl ?_
                          exact qxt hW e0 hX3 ((hF1.tr hF2 (R := xAll) (by intros; omega) (by intros; omega)).tr hF3 (fun _ _ h => h) (by intros; omega))
                        · rw [lg_cmp_eq] at h102
                          exact absurd ((pk_lEQ (by omega) (by decide)).mp h102) hz
                      · (try rw [nI_ltI (by omega) (by omega)] at h76)
                        omega
                    · (try rw [nI_eq0 (by omega)] at h50)
                      exact absurd rfl h50
                  · (try rw [nI_ltI (by omega) (by omega)] at h36)
                    omega
    · rw [if_pos hK] at e0
      refine z_iload_n 1 dX9_off_0 rfl rfl ?_
      refine z_cSI1 4 (tX9_isRow) kX9_isRow dX9_off_1 rfl lX9_83 (Nat.le_of_ble_eq_true rfl) ?_
      rintro _ _ ⟨e1, e2⟩
      replace e1 := e1.symm
      replace e2 := e2.symm
      subst e1
      subst e2
      refine z_ifb_eq 39 7 dX9_off_4 (by decide) rfl (fun h4 => ?_) (fun h4 => ?_)
      · exact absurd b1 h4
      · refine z_aload_n 8 dX9_off_7 rfl rfl ?_
        refine z_iload_n 9 dX9_off_8 rfl rfl ?_
        refine z_cVI1 12 (tX9_isWord (by assumption) (by assumption)) kX9_isWord dX9_off_9 rfl lX9_165 (by first | assumption | rfl) (Nat.le_of_ble_eq_true rfl) ?_
        rintro _ _ ⟨e1, e2⟩
        replace e1 := e1.symm
        replace e2 := e2.symm
        subst e1
        subst e2
        refine z_ifb_eq 39 15 dX9_off_12 (by decide) rfl (fun h12 => ?_) (fun h12 => ?_)
        · exact absurd b2 h12
        · refine z_aload_n 16 dX9_off_15 rfl rfl ?_
          refine z_iload_n 17 dX9_off_16 rfl rfl ?_
          refine z_cVI1 20 (tX9_isWord (by assumption) (by assumption)) kX9_isWord dX9_off_17 rfl lX9_165 (by first | assumption | rfl) (Nat.le_of_ble_eq_true rfl) ?_
          rintro _ _ ⟨e1, e2⟩
          replace e1 := e1.symm
          replace e2 := e2.symm
          subst e1
          subst e2
          refine z_ifb_eq 39 23 dX9_off_20 (by decide) rfl (fun h20 => ?_) (fun h20 => ?_)
          · exact absurd b3 h20
          · refine z_iload_n 24 dX9_off_23 rfl rfl ?_
            refine z_iload_n 25 dX9_off_24 rfl rfl ?_
            refine z_icmp_eq 39 28 dX9_off_25 (by decide) rfl (fun h25 => ?_) (fun h25 => ?_)
            · exact absurd h25 b4
            · refine z_iload 30 dX9_off_28 rfl rfl ?_
              refine z_if_lt 39 33 dX9_off_30 (by decide) rfl (fun h30 => ?_) (fun h30 => ?_)
              · (try rw [nI_lt0 (by omega)] at h30)
                exact h30.elim
              · (try rw [nI_lt0 (by omega)] at h30)
                refine z_iload 35 dX9_off_33 rfl rfl ?_
                refine z_iconst 36 (v := nI 4) dX9_off_35 rfl rfl ?_
                refine z_icmp_lt 41 39 dX9_off_36 (by decide) rfl (fun h36 => ?_) (fun h36 => ?_)
                · (try rw [nI_ltI (by omega) (by omega)] at h36)
                  refine z_aload_n 42 dX9_off_41 rfl rfl ?_
                  refine z_iload_n 43 dX9_off_42 rfl rfl ?_
                  refine z_cVI1 46 (tX9_tableFault hW hX hr) kX9_tableFault dX9_off_43 rfl lX9_233 (by first | assumption | rfl) (Nat.le_of_ble_eq_true rfl) ?_
                  rintro _ _ ⟨e1, e2⟩
                  replace e1 := e1.symm
                  replace e2 := e2.symm
                  subst e1
                  subst e2
                  rw [hD]
                  refine zs_istore_5_8 48 rfl dX9_off_46 rfl rfl ?_
                  refine z_iload 50 dX9_off_48 rfl rfl ?_
                  refine z_if_eq 63 53 dX9_off_50 (by decide) rfl (fun h50 => ?_) (fun h50 => ?_)
                  · (try rw [nI_eq0 (by omega)] at h50)
                    refine z_iload 65 dX9_off_63 rfl rfl ?_
                    refine z_aload_n 66 dX9_off_65 rfl rfl ?_
                    refine gX9_11 69 rfl dX9_off_66 rfl ?_
                    refine z_iload_n 70 dX9_off_69 rfl rfl ?_
                    refine z_aald1 71 dX9_off_70 rfl (by omega) ?_
                    refine gX9_128 74 rfl dX9_off_71 rfl (by first | assumption | rfl) ?_
                    rw [hsg]
                    refine z_iconst 75 (v := nI 2) dX9_off_74 rfl rfl ?_
                    refine z_idiv 76 dX9_off_75 rfl (by decide) ?_
                    rw [pk_div (by omega) (by decide) (by decide)]
                    refine z_icmp_lt 81 79 dX9_off_76 (by decide) rfl (fun h76 => ?_) (fun h76 => ?_)
                    · (try rw [nI_ltI (by omega) (by omega)] at h76)
                      omega
                    · (try rw [nI_ltI (by omega) (by omega)] at h76)
                      refine z_iconst 80 (v := (-1)) dX9_off_79 rfl rfl ?_
                      refine z_ri dX9_off_80 rfl ?_
                      exact qx0 e0 hX Fr.rf
                  · (try rw [nI_eq0 (by omega)] at h50)
                    exact absurd rfl h50
                · (try rw [nI_ltI (by omega) (by omega)] at h36)
                  omega
  · rw [if_pos hD] at e0
    refine z_iload_n 1 dX9_off_0 rfl rfl ?_
    refine z_cSI1 4 (tX9_isRow) kX9_isRow dX9_off_1 rfl lX9_83 (Nat.le_of_ble_eq_true rfl) ?_
    rintro _ _ ⟨e1, e2⟩
    replace e1 := e1.symm
    replace e2 := e2.symm
    subst e1
    subst e2
    refine z_ifb_eq 39 7 dX9_off_4 (by decide) rfl (fun h4 => ?_) (fun h4 => ?_)
    · exact absurd b1 h4
    · refine z_aload_n 8 dX9_off_7 rfl rfl ?_
      refine z_iload_n 9 dX9_off_8 rfl rfl ?_
      refine z_cVI1 12 (tX9_isWord (by assumption) (by assumption)) kX9_isWord dX9_off_9 rfl lX9_165 (by first | assumption | rfl) (Nat.le_of_ble_eq_true rfl) ?_
      rintro _ _ ⟨e1, e2⟩
      replace e1 := e1.symm
      replace e2 := e2.symm
      subst e1
      subst e2
      refine z_ifb_eq 39 15 dX9_off_12 (by decide) rfl (fun h12 => ?_) (fun h12 => ?_)
      · exact absurd b2 h12
      · refine z_aload_n 16 dX9_off_15 rfl rfl ?_
        refine z_iload_n 17 dX9_off_16 rfl rfl ?_
        refine z_cVI1 20 (tX9_isWord (by assumption) (by assumption)) kX9_isWord dX9_off_17 rfl lX9_165 (by first | assumption | rfl) (Nat.le_of_ble_eq_true rfl) ?_
        rintro _ _ ⟨e1, e2⟩
        replace e1 := e1.symm
        replace e2 := e2.symm
        subst e1
        subst e2
        refine z_ifb_eq 39 23 dX9_off_20 (by decide) rfl (fun h20 => ?_) (fun h20 => ?_)
        · exact absurd b3 h20
        · refine z_iload_n 24 dX9_off_23 rfl rfl ?_
          refine z_iload_n 25 dX9_off_24 rfl rfl ?_
          refine z_icmp_eq 39 28 dX9_off_25 (by decide) rfl (fun h25 => ?_) (fun h25 => ?_)
          · exact absurd h25 b4
          · refine z_iload 30 dX9_off_28 rfl rfl ?_
            refine z_if_lt 39 33 dX9_off_30 (by decide) rfl (fun h30 => ?_) (fun h30 => ?_)
            · (try rw [nI_lt0 (by omega)] at h30)
              exact h30.elim
            · (try rw [nI_lt0 (by omega)] at h30)
              refine z_iload 35 dX9_off_33 rfl rfl ?_
              refine z_iconst 36 (v := nI 4) dX9_off_35 rfl rfl ?_
              refine z_icmp_lt 41 39 dX9_off_36 (by decide) rfl (fun h36 => ?_) (fun h36 => ?_)
              · (try rw [nI_ltI (by omega) (by omega)] at h36)
                refine z_aload_n 42 dX9_off_41 rfl rfl ?_
                refine z_iload_n 43 dX9_off_42 rfl rfl ?_
                refine z_cVI1 46 (tX9_tableFault hW hX hr) kX9_tableFault dX9_off_43 rfl lX9_233 (by first | assumption | rfl) (Nat.le_of_ble_eq_true rfl) ?_
                rintro _ _ ⟨e1, e2⟩
                replace e1 := e1.symm
                replace e2 := e2.symm
                subst e1
                subst e2
                refine zs_istore_5_8 48 rfl dX9_off_46 rfl rfl ?_
                refine z_iload 50 dX9_off_48 rfl rfl ?_
                refine z_if_eq 63 53 dX9_off_50 (by decide) rfl (fun h50 => ?_) (fun h50 => ?_)
                · (try rw [nI_eq0 (by omega)] at h50)
                  exact absurd h50 hD
                · (try rw [nI_eq0 (by omega)] at h50)
                  refine z_aload_n 54 dX9_off_53 rfl rfl ?_
                  refine gX9_39 57 rfl dX9_off_54 rfl ?_
                  refine z_iload 59 dX9_off_57 rfl rfl ?_
                  refine z_cVI1 62 (tX0_found (by omega) hpl) kX0_found dX9_off_59 rfl lX9_87 (by first | assumption | rfl) (Nat.le_of_ble_eq_true rfl) ?_
                  rintro _ _ ⟨e1, e2⟩
                  replace e1 := e1.symm
                  replace e2 := e2.symm
                  subst e1
                  subst e2
                  refine z_ri dX9_off_62 rfl ?_
                  exact qxf hW e0 hpl hX Fr.rf
              · (try rw [nI_ltI (by omega) (by omega)] at h36)
                omega
set_option maxRecDepth 20000 in
theorem tX10_off {E : zE} {d : Nat} {σ : zM} {S : sS} {r w v k : Int32} (hW : WF S) (hX : RM S σ) : Ret E mX10_off (d + 9) [zr E 102, .int r, .int w, .int v, .int k] σ (qM σ (spOff S r w v k)) := by
  have h8 := hW.2.1.1
  have hb8 := bw_le hW (show 0 < 2 by omega)
  by_cases hA : ¬ ofOK S r w v k
  · refine Ret.of [some (zr E 102), some (.int r), some (.int w), some (.int v), some (.int k), none, none, none, none, none] (by decide +kernel) (Nat.le_of_ble_eq_true rfl) rfl ?_
    refine z_iload_n 1 dX10_off_0 rfl rfl ?_
    refine z_cSI1 4 (tX10_isRow) kX10_isRow dX10_off_1 rfl lX10_95 (Nat.le_of_ble_eq_true rfl) ?_
    rintro _ _ ⟨e1, e2⟩
    replace e1 := e1.symm
    replace e2 := e2.symm
    subst e1
    subst e2
    refine z_ifb_eq 38 7 dX10_off_4 (by decide) rfl (fun h4 => ?_) (fun h4 => ?_)
    · refine z_iconst 39 (v := (-1)) dX10_off_38 rfl rfl ?_
      refine z_ri dX10_off_39 rfl ?_
      exact qm0 (if_pos hA) hX Fr.rf
    · refine z_aload_n 8 dX10_off_7 rfl rfl ?_
      refine z_iload_n 9 dX10_off_8 rfl rfl ?_
      refine z_cVI1 12 (tX10_isWord (by assumption) (by assumption)) kX10_isWord dX10_off_9 rfl lX10_151 (by first | assumption | rfl) (Nat.le_of_ble_eq_true rfl) ?_
      rintro _ _ ⟨e1, e2⟩
      replace e1 := e1.symm
      replace e2 := e2.symm
      subst e1
      subst e2
      refine z_ifb_eq 38 15 dX10_off_12 (by decide) rfl (fun h12 => ?_) (fun h12 => ?_)
      · refine z_iconst 39 (v := (-1)) dX10_off_38 rfl rfl ?_
        refine z_ri dX10_off_39 rfl ?_
        exact qm0 (if_pos hA) hX Fr.rf
      · refine z_aload_n 16 dX10_off_15 rfl rfl ?_
        refine z_iload_n 17 dX10_off_16 rfl rfl ?_
        refine z_cVI1 20 (tX10_isWord (by assumption) (by assumption)) kX10_isWord dX10_off_17 rfl lX10_151 (by first | assumption | rfl) (Nat.le_of_ble_eq_true rfl) ?_
        rintro _ _ ⟨e1, e2⟩
        replace e1 := e1.symm
        replace e2 := e2.symm
        subst e1
        subst e2
        refine z_ifb_eq 38 23 dX10_off_20 (by decide) rfl (fun h20 => ?_) (fun h20 => ?_)
        · refine z_iconst 39 (v := (-1)) dX10_off_38 rfl rfl ?_
          refine z_ri dX10_off_39 rfl ?_
          exact qm0 (if_pos hA) hX Fr.rf
        · refine z_iload_n 24 dX10_off_23 rfl rfl ?_
          refine z_iload_n 25 dX10_off_24 rfl rfl ?_
          refine z_icmp_eq 38 28 dX10_off_25 (by decide) rfl (fun h25 => ?_) (fun h25 => ?_)
          · refine z_iconst 39 (v := (-1)) dX10_off_38 rfl rfl ?_
            refine z_ri dX10_off_39 rfl ?_
            exact qm0 (if_pos hA) hX Fr.rf
          · refine z_iload 30 dX10_off_28 rfl rfl ?_
            refine z_iconst 31 (v := nI 0) dX10_off_30 rfl rfl ?_
            refine z_iconst 32 (v := nI 3) dX10_off_31 rfl rfl ?_
            refine z_cSI3 35 (tX10_in) kX10_in dX10_off_32 rfl lX10_91 (Nat.le_of_ble_eq_true rfl) ?_
            rintro _ _ ⟨e1, e2⟩
            replace e1 := e1.symm
            replace e2 := e2.symm
            subst e1
            subst e2
            rw [in_k (by decide)]
            refine z_ifb_ne 40 38 dX10_off_35 (by decide) rfl (fun h35 => ?_) (fun h35 => ?_)
            · exact absurd ⟨h4, h12, h20, h25, h35⟩ hA
            · refine z_iconst 39 (v := (-1)) dX10_off_38 rfl rfl ?_
              refine z_ri dX10_off_39 rfl ?_
              exact qm0 (if_pos hA) hX Fr.rf
  have e0 : spOff S r w v k = _ := if_neg hA
  have hA := Classical.not_not.mp hA
  have hA' := hA
  obtain ⟨a1, a2, a3, a4, a5⟩ := hA
  obtain ⟨r, hr, rfl⟩ := inN_of a1
  obtain ⟨w, hw, rfl⟩ := inN_of a2
  obtain ⟨v, hv, rfl⟩ := inN_of a3
  obtain ⟨k, hk, rfl⟩ := inN_of a5
  obtain ⟨b1, b2, b3, b4, b5⟩ := hA'
  rw [zx_nI (by omega), zx_nI (by omega), zx_nI (by omega), zx_nI (by omega)] at e0
  have hpl := sTf_lt S (sR S r)
  refine Ret.of [some (zr E 102), some (.int (nI r)), some (.int (nI w)), some (.int (nI v)), some (.int (nI k)), none, none, none, none, none] (by decide +kernel) (Nat.le_of_ble_eq_true rfl) rfl ?_
  by_cases hD : sTf S (sR S r) = 0
  · rw [if_neg (fun z => z hD)] at e0
    obtain ⟨q, hq, hT, hqg⟩ := sTf0 hD
    have hsz : sSz (sR S r) = q.1 := by rw [hq]; rfl
    have n2 := hT.1.1
    have n8 := hT.1.2.1
    have eh : odR S (sR S r) 0 w v = odN S (gOf (sR S r)) q.1 0 (eW w) (q.1 / 2) v := by unfold odR; rw [hsz]
    unfold ofR at e0
    rw [eh, hsz] at e0
    have o1 := odN_le hW hT 0 hw (q.1 / 2) hv
    have o2 := p24 (show q.1 / 2 ≤ 4 by omega)
    have o3 := ofN_le hW hT hw k (show q.1 / 2 ≤ 4 by omega) hv
    by_cases hK : k < q.1 / 2
    · rw [if_neg (fun z => z hK)] at e0
      by_cases hz : odN S (gOf (sR S r)) q.1 0 (eW w) (q.1 / 2) v = 0
      · rw [if_pos hz] at e0
        refine z_iload_n 1 dX10_off_0 rfl rfl ?_
        refine z_cSI1 4 (tX10_isRow) kX10_isRow dX10_off_1 rfl lX10_95 (Nat.le_of_ble_eq_true rfl) ?_
        rintro _ _ ⟨e1, e2⟩
        replace e1 := e1.symm
        replace e2 := e2.symm
        subst e1
        subst e2
        refine z_ifb_eq 38 7 dX10_off_4 (by decide) rfl (fun h4 => ?_) (fun h4 => ?_)
        · exact absurd b1 h4
        · refine z_aload_n 8 dX10_off_7 rfl rfl ?_
          refine z_iload_n 9 dX10_off_8 rfl rfl ?_
          refine z_cVI1 12 (tX10_isWord (by assumption) (by assumption)) kX10_isWord dX10_off_9 rfl lX10_151 (by first | assumption | rfl) (Nat.le_of_ble_eq_true rfl) ?_
          rintro _ _ ⟨e1, e2⟩
          replace e1 := e1.symm
          replace e2 := e2.symm
          subst e1
          subst e2
          refine z_ifb_eq 38 15 dX10_off_12 (by decide) rfl (fun h12 => ?_) (fun h12 => ?_)
          · exact absurd b2 h12
          · refine z_aload_n 16 dX10_off_15 rfl rfl ?_
            refine z_iload_n 17 dX10_off_16 rfl rfl ?_
            refine z_cVI1 20 (tX10_isWord (by assumption) (by assumption)) kX10_isWord dX10_off_17 rfl lX10_151 (by first | assumption | rfl) (Nat.le_of_ble_eq_true rfl) ?_
            rintro _ _ ⟨e1, e2⟩
            replace e1 := e1.symm
            replace e2 := e2.symm
            subst e1
            subst e2
            refine z_ifb_eq 38 23 dX10_off_20 (by decide) rfl (fun h20 => ?_) (fun h20 => ?_)
            · exact absurd b3 h20
            · refine z_iload_n 24 dX10_off_23 rfl rfl ?_
              refine z_iload_n 25 dX10_off_24 rfl rfl ?_
              refine z_icmp_eq 38 28 dX10_off_25 (by decide) rfl (fun h25 => ?_) (fun h25 => ?_)
              · exact absurd h25 b4
              · refine z_iload 30 dX10_off_28 rfl rfl ?_
                refine z_iconst 31 (v := nI 0) dX10_off_30 rfl rfl ?_
                refine z_iconst 32 (v := nI 3) dX10_off_31 rfl rfl ?_
                refine z_cSI3 35 (tX10_in) kX10_in dX10_off_32 rfl lX10_91 (Nat.le_of_ble_eq_true rfl) ?_
                rintro _ _ ⟨e1, e2⟩
                replace e1 := e1.symm
                replace e2 := e2.symm
                subst e1
                subst e2
                rw [in_k (by decide)]
                refine z_ifb_ne 40 38 dX10_off_35 (by decide) rfl (fun h35 => ?_) (fun h35 => ?_)
                · refine z_aload_n 41 dX10_off_40 rfl rfl ?_
                  refine z_iload_n 42 dX10_off_41 rfl rfl ?_
                  refine z_cVI1 45 (tX10_askedTable hW hX hr) kX10_askedTable dX10_off_42 rfl lX10_238 (by first | assumption | rfl) (Nat.le_of_ble_eq_true rfl) ?_
                  rintro x1 τ1 hx
                  obtain ⟨_, e1, hF1, hX1, hB1⟩ := hx.resolve_right (fun z => z.1 hD)
                  subst e1
                  rw [hsz] at hB1
                  refine zs_istore_5_10 47 rfl dX10_off_45 rfl rfl ?_
                  refine z_iload 49 dX10_off_47 rfl rfl ?_
                  refine z_if_ge 55 52 dX10_off_49 (by decide) rfl (fun h49 => ?_) (fun h49 => ?_)
                  · refine z_iload 57 dX10_off_55 rfl rfl ?_
                    refine z_aload_n 58 dX10_off_57 rfl rfl ?_
                    refine z_cVI0 61 (tX10_steps hB1 n8) kX10_steps dX10_off_58 rfl lX10_232 (by first | assumption | rfl) (Nat.le_of_ble_eq_true rfl) ?_
                    rintro _ _ ⟨e1, e2⟩
                    replace e1 := e1.symm
                    replace e2 := e2.symm
                    subst e1
                    subst e2
                    refine z_icmp_lt 66 64 dX10_off_61 (by decide) rfl (fun h61 => ?_) (fun h61 => ?_)
                    · (try rw [nI_ltI (by omega) (by omega)] at h61)
                      refine z_aload_n 67 dX10_off_66 rfl rfl ?_
                      refine z_iconst 68 (v := nI 0) dX10_off_67 rfl rfl ?_
                      refine z_iload_n 69 dX10_off_68 rfl rfl ?_
                      refine z_cVV2 72 (tX10_setOdds hW hX1 hT hB1 (show 0 < 8 by omega) hw) kX10_setOdds dX10_off_69 rfl lX10_241 (by first | assumption | rfl) (Nat.le_of_ble_eq_true rfl) ?_
                      rintro τ2 ⟨hF2, hX2, hO2⟩
                      refine z_aload_n 73 dX10_off_72 rfl rfl ?_
                      refine gX10_56 76 rfl dX10_off_73 rfl ?_
                      refine z_iload_n 77 dX10_off_76 rfl rfl ?_
                      refine z_laldn 78 dX10_off_77 rfl (by first | assumption | rfl) (by omega) ?_
                      rw [hO2 v hv, hz]
                      refine zs_lstore_6_10 80 rfl dX10_off_78 rfl rfl ?_
                      refine z_lload 82 dX10_off_80 rfl rfl ?_
                      refine z_lconst 83 (v := 0) dX10_off_82 rfl rfl ?_
                      refine z_lcmp 84 dX10_off_83 rfl ?_
                      refine z_if_ne 93 87 dX10_off_84 (by decide) rfl (fun h84 => ?_) (fun h84 => ?_)
                      · rw [lg_cmp_eq] at h84
                        exact absurd rfl h84
                      · rw [lg_cmp_eq] at h84
                        refine z_aload_n 88 dX10_off_87 rfl rfl ?_
                        refine z_iconst 89 (v := nI 4) dX10_off_88 rfl rfl ?_
                        refine z_cVI1 92 (tX10_meets (by omega)) kX10_meets dX10_off_89 rfl lX10_99 (by first | assumption | rfl) (Nat.le_of_ble_eq_true rfl) ?_
                        rintro _ _ ⟨e1, e2⟩
                        replace e1 := e1.symm
                        replace e2 := e2.symm
                        subst e1
                        subst e2
                        refine z_ri dX10_off_92 rfl ?_
                        exact qmf hW e0 (by decide) hX2 (hF1.tr hF2 (by intros; omega) (by intros; omega))
                    · (try rw [nI_ltI (by omega) (by omega)] at h61)
                      omega
                  · exact absurd (nI_pos' (by decide)) h49
                · exact absurd b5 h35
      · rw [if_neg hz] at e0
        have loop : ∀ i, i ≤ q.1 / 2 → ∀ y9 τ, Fr mS σ τ → RM S τ → mTb τ q.1 (gOf (sR S r)) → OdM τ (sBw S 0) (ofN S (gOf (sR S r)) q.1 w k i) → At E mX10_off (d + 9) (qM σ (spOff S (nI r) (nI w) (nI v) (nI k))) 132 [some (zr E 102), some (.int (nI r)), some (.int (nI w)), some (.int (nI v)), some (.int (nI k)), some (.int (nI 0)), some (.long (lN (odN S (gOf (sR S r)) q.1 0 (eW w) (q.1 / 2) v))), none, some (.int (nI i)), y9] [] τ := by
          refine z_up (fun i hi ih y9 τ hF hR hB hO => ?_)
          by_cases hie : i = q.1 / 2
          · rw [hie] at hO ⊢
            refine z_iload 134 dX10_off_132 rfl rfl ?_
            refine z_aload_n 135 dX10_off_134 rfl rfl ?_
            refine z_cVI0 138 (tX10_steps hB n8) kX10_steps dX10_off_135 rfl lX10_232 (by first | assumption | rfl) (Nat.le_of_ble_eq_true rfl) ?_
            rintro _ _ ⟨e1, e2⟩
            replace e1 := e1.symm
            replace e2 := e2.symm
            subst e1
            subst e2
            refine z_icmp_ge 223 141 dX10_off_138 (by decide) rfl (fun h138 => ?_) (fun h138 => ?_)
            · (try rw [nI_leI (by omega) (by omega)] at h138)
              refine z_aload_n 224 dX10_off_223 rfl rfl ?_
              refine z_aload_n 225 dX10_off_224 rfl rfl ?_
              refine gX10_56 228 rfl dX10_off_225 rfl ?_
              refine z_iload_n 229 dX10_off_228 rfl rfl ?_
              refine z_laldn 230 dX10_off_229 rfl (by first | assumption | rfl) (by omega) ?_
              rw [hO v hv]
              refine z_lload 232 dX10_off_230 rfl rfl ?_
              refine z_iconst 233 (v := nI 1) dX10_off_232 rfl rfl ?_
              refine z_cVI3 236 (tX10_part (by omega) (by omega) (by omega)) kX10_part dX10_off_233 rfl lX10_248 (by first | assumption | rfl) (Nat.le_of_ble_eq_true rfl) ?_
              rintro _ _ ⟨e1, e2⟩
              replace e1 := e1.symm
              replace e2 := e2.symm
              subst e1
              subst e2
              refine z_ri dX10_off_236 rfl ?_
              exact qmt hW e0 hR (hF.mono mS_all)
            · (try rw [nI_leI (by omega) (by omega)] at h138)
              omega
          · have hil : i < q.1 / 2 := by omega
            have hob : ∀ x, x < sBw S 0 → ofN S (gOf (sR S r)) q.1 w k i x < 2 ^ 63 := fun x hx => Nat.lt_of_le_of_lt (ofN_le hW hT hw k (show i ≤ 4 by omega) hx) (by decide)
            have es : ∀ x, ofN S (gOf (sR S r)) q.1 w k (i + 1) x = if ofP w k i x then 0 else nxO S (gOf (sR S r) ((0 + 2 * i) % q.1)) (gOf (sR S r) ((0 + 2 * i + 1) % q.1)) (ofN S (gOf (sR S r)) q.1 w k i) x := fun x => rfl
            have inner : ∀ j, j ≤ sBw S 0 → ∀ τ, Fr mS σ τ → RM S τ → mTb τ q.1 (gOf (sR S r)) → (∀ x, x < sBw S 0 → gl τ 117 x = lN (if x < j then ofN S (gOf (sR S r)) q.1 w k (i + 1) x else nxO S (gOf (sR S r) ((0 + 2 * i) % q.1)) (gOf (sR S r) ((0 + 2 * i + 1) % q.1)) (ofN S (gOf (sR S r)) q.1 w k i) x)) → At E mX10_off (d + 9) (qM σ (spOff S (nI r) (nI w) (nI v) (nI k))) 151 [some (zr E 102), some (.int (nI r)), some (.int (nI w)), some (.int (nI v)), some (.int (nI k)), some (.int (nI 0)), some (.long (lN (odN S (gOf (sR S r)) q.1 0 (eW w) (q.1 / 2) v))), none, some (.int (nI i)), some (.int (nI j))] [] τ := by
              refine z_up (fun j hj jh τ hF hR hB hN => ?_)
              by_cases hje : j = sBw S 0
              · have hO' : OdM τ (sBw S 0) (ofN S (gOf (sR S r)) q.1 w k (i + 1)) := fun x hx => by
                  have := hN x hx
                  rw [if_pos (by omega)] at this
                  exact this
                refine z_iload 153 dX10_off_151 rfl rfl ?_
                refine z_aload_n 154 dX10_off_153 rfl rfl ?_
                refine z_cVI0 157 (tX10_words (by assumption)) kX10_words dX10_off_154 rfl lX10_144 (by first | assumption | rfl) (Nat.le_of_ble_eq_true rfl) ?_
                rintro _ _ ⟨e1, e2⟩
                replace e1 := e1.symm
                replace e2 := e2.symm
                subst e1
                subst e2
                refine z_icmp_ge 217 160 dX10_off_157 (by decide) rfl (fun h157 => ?_) (fun h157 => ?_)
                · (try rw [nI_leI (by omega) (by omega)] at h157)
                  refine zs_iinc_8_10_1 220 rfl dX10_off_217 rfl rfl ?_
                  rw [nI_add]
                  refine z_goto 132 dX10_off_220 rfl ?_
                  exact ih (i + 1) (by omega) (by omega) _ τ hF hR hB hO'
                · (try rw [nI_leI (by omega) (by omega)] at h157)
                  omega
              · have hjl : j < sBw S 0 := by omega
                by_cases hik : i ≤ k
                · have hNj := hN j hjl
                  rw [if_neg (Nat.lt_irrefl j)] at hNj
                  have go : ∀ X, lN (ofN S (gOf (sR S r)) q.1 w k (i + 1) j) = X → At E mX10_off (d + 9) (qM σ (spOff S (nI r) (nI w) (nI v) (nI k))) 210 [some (zr E 102), some (.int (nI r)), some (.int (nI w)), some (.int (nI v)), some (.int (nI k)), some (.int (nI 0)), some (.long (lN (odN S (gOf (sR S r)) q.1 0 (eW w) (q.1 / 2) v))), none, some (.int (nI i)), some (.int (nI j))] [.long X, .int (nI j), zr E 117] τ := by
                    intro X hX
                    subst hX
                    have hf : Fr (fun a b => a = 117) τ (sl τ 117 j (lN (ofN S (gOf (sR S r)) q.1 w k (i + 1) j))) := Fr.rf.sl _ rfl
                    refine z_lastn 211 dX10_off_210 rfl (by first | assumption | rfl) (by omega) ?_
                    refine zs_iinc_9_10_1 214 rfl dX10_off_211 rfl rfl ?_
                    rw [nI_add]
                    refine z_goto 151 dX10_off_214 rfl ?_
                    exact jh (j + 1) (by omega) (by omega) _ (hF.tr hf (fun _ _ h => h) (by unfold mS; intros; omega)) (hR.scr hW (hf.mono (by unfold mS; intros; omega))) (hB.fr hf (by omega) (by intros; omega)) (fun x hx => by
                      rw [gl_sl]
                      by_cases hxj : x = j
                      · rw [if_pos ⟨rfl, hxj⟩, hxj, if_pos (Nat.lt_succ_self j)]
                      · rw [if_neg (fun z => hxj z.2), hN x hx]
                        by_cases hlt : x < j
                        · rw [if_pos hlt, if_pos (by omega)]
                        · rw [if_neg hlt, if_neg (by omega)])
                  refine z_iload 153 dX10_off_151 rfl rfl ?_
                  refine z_aload_n 154 dX10_off_153 rfl rfl ?_
                  refine z_cVI0 157 (tX10_words (by assumption)) kX10_words dX10_off_154 rfl lX10_144 (by first | assumption | rfl) (Nat.le_of_ble_eq_true rfl) ?_
                  rintro _ _ ⟨e1, e2⟩
                  replace e1 := e1.symm
                  replace e2 := e2.symm
                  subst e1
                  subst e2
                  refine z_icmp_ge 217 160 dX10_off_157 (by decide) rfl (fun h157 => ?_) (fun h157 => ?_)
                  · (try rw [nI_leI (by omega) (by omega)] at h157)
                    omega
                  · (try rw [nI_leI (by omega) (by omega)] at h157)
                    refine z_iload 162 dX10_off_160 rfl rfl ?_
                    refine z_iload 164 dX10_off_162 rfl rfl ?_
                    refine z_icmp_gt 217 167 dX10_off_164 (by decide) rfl (fun h164 => ?_) (fun h164 => ?_)
                    · (try rw [nI_ltI (by omega) (by omega)] at h164)
                      omega
                    · (try rw [nI_ltI (by omega) (by omega)] at h164)
                      refine z_aload_n 168 dX10_off_167 rfl rfl ?_
                      refine gX10_56 171 rfl dX10_off_168 rfl ?_
                      refine z_iload 173 dX10_off_171 rfl rfl ?_
                      refine z_iload 175 dX10_off_173 rfl rfl ?_
                      refine z_iload_n 176 dX10_off_175 rfl rfl ?_
                      refine z_icmp_ne 183 179 dX10_off_176 (by decide) rfl (fun h176 => ?_) (fun h176 => ?_)
                      · (try rw [nI_eq (by omega) (by omega)] at h176)
                        refine z_iconst 184 (v := nI 0) dX10_off_183 rfl rfl ?_
                        refine z_iload 186 dX10_off_184 rfl rfl ?_
                        refine z_iload 188 dX10_off_186 rfl rfl ?_
                        refine z_icmp_ge 195 191 dX10_off_188 (by decide) rfl (fun h188 => ?_) (fun h188 => ?_)
                        · (try rw [nI_leI (by omega) (by omega)] at h188)
                          refine z_iconst 196 (v := nI 0) dX10_off_195 rfl rfl ?_
                          refine z_icmp_ne 209 199 dX10_off_196 (by decide) rfl (fun h196 => ?_) (fun h196 => ?_)
                          · (try rw [nI_eq (by omega) (by omega)] at h196)
                            refine z_lconst 210 (v := 0) dX10_off_209 rfl rfl ?_
                            first
                              | (exfalso; omega)
                              | exact go _ (by rw [es, if_neg (by omega)])
                              | exact go _ (by rw [es, if_pos (by omega)]; rfl)
                          · (try rw [nI_eq (by omega) (by omega)] at h196)
                            refine z_aload_n 200 dX10_off_199 rfl rfl ?_
                            refine gX10_56 203 rfl dX10_off_200 rfl ?_
                            refine z_iload 205 dX10_off_203 rfl rfl ?_
                            refine z_laldn 206 dX10_off_205 rfl (by first | assumption | rfl) (by omega) ?_
                            rw [hNj]
                            refine z_goto 210 dX10_off_206 rfl ?_
                            first
                              | (exfalso; omega)
                              | exact go _ (by rw [es, if_neg (by omega)])
                              | exact go _ (by rw [es, if_pos (by omega)]; rfl)
                        · (try rw [nI_leI (by omega) (by omega)] at h188)
                          refine z_iconst 192 (v := nI 1) dX10_off_191 rfl rfl ?_
                          refine z_goto 196 dX10_off_192 rfl ?_
                          refine z_icmp_ne 209 199 dX10_off_196 (by decide) rfl (fun h196 => ?_) (fun h196 => ?_)
                          · (try rw [nI_eq (by omega) (by omega)] at h196)
                            refine z_lconst 210 (v := 0) dX10_off_209 rfl rfl ?_
                            first
                              | (exfalso; omega)
                              | exact go _ (by rw [es, if_neg (by omega)])
                              | exact go _ (by rw [es, if_pos (by omega)]; rfl)
                          · (try rw [nI_eq (by omega) (by omega)] at h196)
                            refine z_aload_n 200 dX10_off_199 rfl rfl ?_
                            refine gX10_56 203 rfl dX10_off_200 rfl ?_
                            refine z_iload 205 dX10_off_203 rfl rfl ?_
                            refine z_laldn 206 dX10_off_205 rfl (by first | assumption | rfl) (by omega) ?_
                            rw [hNj]
                            refine z_goto 210 dX10_off_206 rfl ?_
                            first
                              | (exfalso; omega)
                              | exact go _ (by rw [es, if_neg (by omega)])
                              | exact go _ (by rw [es, if_pos (by omega)]; rfl)
                      · (try rw [nI_eq (by omega) (by omega)] at h176)
                        refine z_iconst 180 (v := nI 1) dX10_off_179 rfl rfl ?_
                        refine z_goto 184 dX10_off_180 rfl ?_
                        refine z_iload 186 dX10_off_184 rfl rfl ?_
                        refine z_iload 188 dX10_off_186 rfl rfl ?_
                        refine z_icmp_ge 195 191 dX10_off_188 (by decide) rfl (fun h188 => ?_) (fun h188 => ?_)
                        · (try rw [nI_leI (by omega) (by omega)] at h188)
                          refine z_iconst 196 (v := nI 0) dX10_off_195 rfl rfl ?_
                          refine z_icmp_ne 209 199 dX10_off_196 (by decide) rfl (fun h196 => ?_) (fun h196 => ?_)
                          · (try rw [nI_eq (by omega) (by omega)] at h196)
                            refine z_lconst 210 (v := 0) dX10_off_209 rfl rfl ?_
                            first
                              | (exfalso; omega)
                              | exact go _ (by rw [es, if_neg (by omega)])
                              | exact go _ (by rw [es, if_pos (by omega)]; rfl)
                          · (try rw [nI_eq (by omega) (by omega)] at h196)
                            refine z_aload_n 200 dX10_off_199 rfl rfl ?_
                            refine gX10_56 203 rfl dX10_off_200 rfl ?_
                            refine z_iload 205 dX10_off_203 rfl rfl ?_
                            refine z_laldn 206 dX10_off_205 rfl (by first | assumption | rfl) (by omega) ?_
                            rw [hNj]
                            refine z_goto 210 dX10_off_206 rfl ?_
                            first
                              | (exfalso; omega)
                              | exact go _ (by rw [es, if_neg (by omega)])
                              | exact go _ (by rw [es, if_pos (by omega)]; rfl)
                        · (try rw [nI_leI (by omega) (by omega)] at h188)
                          refine z_iconst 192 (v := nI 1) dX10_off_191 rfl rfl ?_
                          refine z_goto 196 dX10_off_192 rfl ?_
                          refine z_icmp_ne 209 199 dX10_off_196 (by decide) rfl (fun h196 => ?_) (fun h196 => ?_)
                          · (try rw [nI_eq (by omega) (by omega)] at h196)
                            refine z_lconst 210 (v := 0) dX10_off_209 rfl rfl ?_
                            first
                              | (exfalso; omega)
                              | exact go _ (by rw [es, if_neg (by omega)])
                              | exact go _ (by rw [es, if_pos (by omega)]; rfl)
                          · (try rw [nI_eq (by omega) (by omega)] at h196)
                            refine z_aload_n 200 dX10_off_199 rfl rfl ?_
                            refine gX10_56 203 rfl dX10_off_200 rfl ?_
                            refine z_iload 205 dX10_off_203 rfl rfl ?_
                            refine z_laldn 206 dX10_off_205 rfl (by first | assumption | rfl) (by omega) ?_
                            rw [hNj]
                            refine z_goto 210 dX10_off_206 rfl ?_
                            first
                              | (exfalso; omega)
                              | exact go _ (by rw [es, if_neg (by omega)])
                              | exact go _ (by rw [es, if_pos (by omega)]; rfl)
                · have hO' : OdM τ (sBw S 0) (ofN S (gOf (sR S r)) q.1 w k (i + 1)) := fun x hx => by
                    rw [hN x hx, es x, if_neg (show ¬ ofP w k i x from fun z => hik z.1)]
                    split <;> rfl
                  refine z_iload 153 dX10_off_151 rfl rfl ?_
                  refine z_aload_n 154 dX10_off_153 rfl rfl ?_
                  refine z_cVI0 157 (tX10_words (by assumption)) kX10_words dX10_off_154 rfl lX10_144 (by first | assumption | rfl) (Nat.le_of_ble_eq_true rfl) ?_
                  rintro _ _ ⟨e1, e2⟩
                  replace e1 := e1.symm
                  replace e2 := e2.symm
                  subst e1
                  subst e2
                  refine z_icmp_ge 217 160 dX10_off_157 (by decide) rfl (fun h157 => ?_) (fun h157 => ?_)
                  · (try rw [nI_leI (by omega) (by omega)] at h157)
                    omega
                  · (try rw [nI_leI (by omega) (by omega)] at h157)
                    refine z_iload 162 dX10_off_160 rfl rfl ?_
                    refine z_iload 164 dX10_off_162 rfl rfl ?_
                    refine z_icmp_gt 217 167 dX10_off_164 (by decide) rfl (fun h164 => ?_) (fun h164 => ?_)
                    · (try rw [nI_ltI (by omega) (by omega)] at h164)
                      refine zs_iinc_8_10_1 220 rfl dX10_off_217 rfl rfl ?_
                      rw [nI_add]
                      refine z_goto 132 dX10_off_220 rfl ?_
                      exact ih (i + 1) (by omega) (by omega) _ τ hF hR hB hO'
                    · (try rw [nI_ltI (by omega) (by omega)] at h164)
                      omega
            refine z_iload 134 dX10_off_132 rfl rfl ?_
            refine z_aload_n 135 dX10_off_134 rfl rfl ?_
            refine z_cVI0 138 (tX10_steps hB n8) kX10_steps dX10_off_135 rfl lX10_232 (by first | assumption | rfl) (Nat.le_of_ble_eq_true rfl) ?_
            rintro _ _ ⟨e1, e2⟩
            replace e1 := e1.symm
            replace e2 := e2.symm
            subst e1
            subst e2
            refine z_icmp_ge 223 141 dX10_off_138 (by decide) rfl (fun h138 => ?_) (fun h138 => ?_)
            · (try rw [nI_leI (by omega) (by omega)] at h138)
              omega
            · (try rw [nI_leI (by omega) (by omega)] at h138)
              refine z_aload_n 142 dX10_off_141 rfl rfl ?_
              refine z_iconst 143 (v := nI 0) dX10_off_142 rfl rfl ?_
              refine z_iload 145 dX10_off_143 rfl rfl ?_
              refine z_cVV2 148 (tX10_goOn hW hR hT hB (show 0 < 8 by omega) (show i < 8 by omega) hO hob) kX10_goOn dX10_off_145 rfl lX10_235 (by first | assumption | rfl) (Nat.le_of_ble_eq_true rfl) ?_
              rintro τ1 ⟨hF1, hX1, hO1⟩
              refine z_iconst 149 (v := nI 0) dX10_off_148 rfl rfl ?_
              refine zs_istore_9_10 151 rfl dX10_off_149 rfl rfl ?_
              exact inner 0 (Nat.zero_le _) τ1 (hF.tr hF1 (fun _ _ h => h) fGo_mS) hX1 (hB.fr hF1 (by omega) (by intros; omega)) (fun x hx => by rw [if_neg (Nat.not_lt_zero x)]; exact hO1 x hx)
        have beg : ∀ i, i ≤ sBw S 0 → ∀ τ, Fr mS σ τ → RM S τ → mTb τ q.1 (gOf (sR S r)) → (∀ x, x < i → gl τ 117 x = lN (eW w x)) → At E mX10_off (d + 9) (qM σ (spOff S (nI r) (nI w) (nI v) (nI k))) 96 [some (zr E 102), some (.int (nI r)), some (.int (nI w)), some (.int (nI v)), some (.int (nI k)), some (.int (nI 0)), some (.long (lN (odN S (gOf (sR S r)) q.1 0 (eW w) (q.1 / 2) v))), none, some (.int (nI i)), none] [] τ := by
          refine z_up (fun i hi ih τ hF hR hB hO => ?_)
          by_cases hie : i = sBw S 0
          · rw [hie] at hO ⊢
            refine z_iload 98 dX10_off_96 rfl rfl ?_
            refine z_aload_n 99 dX10_off_98 rfl rfl ?_
            refine z_cVI0 102 (tX10_words (by assumption)) kX10_words dX10_off_99 rfl lX10_144 (by first | assumption | rfl) (Nat.le_of_ble_eq_true rfl) ?_
            rintro _ _ ⟨e1, e2⟩
            replace e1 := e1.symm
            replace e2 := e2.symm
            subst e1
            subst e2
            refine z_icmp_ge 129 105 dX10_off_102 (by decide) rfl (fun h102 => ?_) (fun h102 => ?_)
            · (try rw [nI_leI (by omega) (by omega)] at h102)
              refine z_iconst 130 (v := nI 0) dX10_off_129 rfl rfl ?_
              refine zs_istore_8_10 132 rfl dX10_off_130 rfl rfl ?_
              exact loop 0 (Nat.zero_le _) _ τ hF hR hB hO
            · (try rw [nI_leI (by omega) (by omega)] at h102)
              omega
          · refine z_iload 98 dX10_off_96 rfl rfl ?_
            refine z_aload_n 99 dX10_off_98 rfl rfl ?_
            refine z_cVI0 102 (tX10_words (by assumption)) kX10_words dX10_off_99 rfl lX10_144 (by first | assumption | rfl) (Nat.le_of_ble_eq_true rfl) ?_
            rintro _ _ ⟨e1, e2⟩
            replace e1 := e1.symm
            replace e2 := e2.symm
            subst e1
            subst e2
            refine z_icmp_ge 129 105 dX10_off_102 (by decide) rfl (fun h102 => ?_) (fun h102 => ?_)
            · (try rw [nI_leI (by omega) (by omega)] at h102)
              omega
            · (try rw [nI_leI (by omega) (by omega)] at h102)
              refine z_aload_n 106 dX10_off_105 rfl rfl ?_
              refine gX10_56 109 rfl dX10_off_106 rfl ?_
              refine z_iload 111 dX10_off_109 rfl rfl ?_
              refine z_iload 113 dX10_off_111 rfl rfl ?_
              refine z_iload_n 114 dX10_off_113 rfl rfl ?_
              refine z_icmp_ne 121 117 dX10_off_114 (by decide) rfl (fun h114 => ?_) (fun h114 => ?_)
              · (try rw [nI_eq (by omega) (by omega)] at h114)
                have er : (0 : Int64) = lN (eW w i) := by (unfold eW; rw [if_neg h114]; rfl)
                refine z_lconst 122 (v := 0) dX10_off_121 rfl rfl ?_
                rw [er]
                refine z_lastn 123 dX10_off_122 rfl (by first | assumption | rfl) (by omega) ?_
                refine zs_iinc_8_10_1 126 rfl dX10_off_123 rfl rfl ?_
                rw [nI_add]
                refine z_goto 96 dX10_off_126 rfl ?_
                have hf : Fr (fun a b => a = 117) τ (sl τ 117 i (lN (eW w i))) := Fr.rf.sl _ rfl
                exact ih (i + 1) (by omega) (by omega) _ (hF.tr hf (fun _ _ h => h) (by unfold mS; intros; omega)) (hR.scr hW (hf.mono (by unfold mS; intros; omega))) (hB.fr hf (by omega) (by intros; omega)) (fun x hx => by
                  rw [gl_sl]
                  by_cases hki : x = i
                  · rw [if_pos ⟨rfl, hki⟩, hki]
                  · rw [if_neg (fun z => hki z.2)]; exact hO x (by omega))
              · (try rw [nI_eq (by omega) (by omega)] at h114)
                have er : (1 : Int64) = lN (eW w i) := by (unfold eW; rw [if_pos h114]; rfl)
                refine z_lconst 118 (v := 1) dX10_off_117 rfl rfl ?_
                refine z_goto 122 dX10_off_118 rfl ?_
                rw [er]
                refine z_lastn 123 dX10_off_122 rfl (by first | assumption | rfl) (by omega) ?_
                refine zs_iinc_8_10_1 126 rfl dX10_off_123 rfl rfl ?_
                rw [nI_add]
                refine z_goto 96 dX10_off_126 rfl ?_
                have hf : Fr (fun a b => a = 117) τ (sl τ 117 i (lN (eW w i))) := Fr.rf.sl _ rfl
                exact ih (i + 1) (by omega) (by omega) _ (hF.tr hf (fun _ _ h => h) (by unfold mS; intros; omega)) (hR.scr hW (hf.mono (by unfold mS; intros; omega))) (hB.fr hf (by omega) (by intros; omega)) (fun x hx => by
                  rw [gl_sl]
                  by_cases hki : x = i
                  · rw [if_pos ⟨rfl, hki⟩, hki]
                  · rw [if_neg (fun z => hki z.2)]; exact hO x (by omega))
        refine z_iload_n 1 dX10_off_0 rfl rfl ?_
        refine z_cSI1 4 (tX10_isRow) kX10_isRow dX10_off_1 rfl lX10_95 (Nat.le_of_ble_eq_true rfl) ?_
        rintro _ _ ⟨e1, e2⟩
        replace e1 := e1.symm
        replace e2 := e2.symm
        subst e1
        subst e2
        refine z_ifb_eq 38 7 dX10_off_4 (by decide) rfl (fun h4 => ?_) (fun h4 => ?_)
        · exact absurd b1 h4
        · refine z_aload_n 8 dX10_off_7 rfl rfl ?_
          refine z_iload_n 9 dX10_off_8 rfl rfl ?_
          refine z_cVI1 12 (tX10_isWord (by assumption) (by assumption)) kX10_isWord dX10_off_9 rfl lX10_151 (by first | assumption | rfl) (Nat.le_of_ble_eq_true rfl) ?_
          rintro _ _ ⟨e1, e2⟩
          replace e1 := e1.symm
          replace e2 := e2.symm
          subst e1
          subst e2
          refine z_ifb_eq 38 15 dX10_off_12 (by decide) rfl (fun h12 => ?_) (fun h12 => ?_)
          · exact absurd b2 h12
          · refine z_aload_n 16 dX10_off_15 rfl rfl ?_
            refine z_iload_n 17 dX10_off_16 rfl rfl ?_
            refine z_cVI1 20 (tX10_isWord (by assumption) (by assumption)) kX10_isWord dX10_off_17 rfl lX10_151 (by first | assumption | rfl) (Nat.le_of_ble_eq_true rfl) ?_
            rintro _ _ ⟨e1, e2⟩
            replace e1 := e1.symm
            replace e2 := e2.symm
            subst e1
            subst e2
            refine z_ifb_eq 38 23 dX10_off_20 (by decide) rfl (fun h20 => ?_) (fun h20 => ?_)
            · exact absurd b3 h20
            · refine z_iload_n 24 dX10_off_23 rfl rfl ?_
              refine z_iload_n 25 dX10_off_24 rfl rfl ?_
              refine z_icmp_eq 38 28 dX10_off_25 (by decide) rfl (fun h25 => ?_) (fun h25 => ?_)
              · exact absurd h25 b4
              · refine z_iload 30 dX10_off_28 rfl rfl ?_
                refine z_iconst 31 (v := nI 0) dX10_off_30 rfl rfl ?_
                refine z_iconst 32 (v := nI 3) dX10_off_31 rfl rfl ?_
                refine z_cSI3 35 (tX10_in) kX10_in dX10_off_32 rfl lX10_91 (Nat.le_of_ble_eq_true rfl) ?_
                rintro _ _ ⟨e1, e2⟩
                replace e1 := e1.symm
                replace e2 := e2.symm
                subst e1
                subst e2
                rw [in_k (by decide)]
                refine z_ifb_ne 40 38 dX10_off_35 (by decide) rfl (fun h35 => ?_) (fun h35 => ?_)
                · refine z_aload_n 41 dX10_off_40 rfl rfl ?_
                  refine z_iload_n 42 dX10_off_41 rfl rfl ?_
                  refine z_cVI1 45 (tX10_askedTable hW hX hr) kX10_askedTable dX10_off_42 rfl lX10_238 (by first | assumption | rfl) (Nat.le_of_ble_eq_true rfl) ?_
                  rintro x1 τ1 hx
                  obtain ⟨_, e1, hF1, hX1, hB1⟩ := hx.resolve_right (fun z => z.1 hD)
                  subst e1
                  rw [hsz] at hB1
                  refine zs_istore_5_10 47 rfl dX10_off_45 rfl rfl ?_
                  refine z_iload 49 dX10_off_47 rfl rfl ?_
                  refine z_if_ge 55 52 dX10_off_49 (by decide) rfl (fun h49 => ?_) (fun h49 => ?_)
                  · refine z_iload 57 dX10_off_55 rfl rfl ?_
                    refine z_aload_n 58 dX10_off_57 rfl rfl ?_
                    refine z_cVI0 61 (tX10_steps hB1 n8) kX10_steps dX10_off_58 rfl lX10_232 (by first | assumption | rfl) (Nat.le_of_ble_eq_true rfl) ?_
                    rintro _ _ ⟨e1, e2⟩
                    replace e1 := e1.symm
                    replace e2 := e2.symm
                    subst e1
                    subst e2
                    refine z_icmp_lt 66 64 dX10_off_61 (by decide) rfl (fun h61 => ?_) (fun h61 => ?_)
                    · (try rw [nI_ltI (by omega) (by omega)] at h61)
                      refine z_aload_n 67 dX10_off_66 rfl rfl ?_
                      refine z_iconst 68 (v := nI 0) dX10_off_67 rfl rfl ?_
                      refine z_iload_n 69 dX10_off_68 rfl rfl ?_
                      refine z_cVV2 72 (tX10_setOdds hW hX1 hT hB1 (show 0 < 8 by omega) hw) kX10_setOdds dX10_off_69 rfl lX10_241 (by first | assumption | rfl) (Nat.le_of_ble_eq_true rfl) ?_
                      rintro τ2 ⟨hF2, hX2, hO2⟩
                      refine z_aload_n 73 dX10_off_72 rfl rfl ?_
                      refine gX10_56 76 rfl dX10_off_73 rfl ?_
                      refine z_iload_n 77 dX10_off_76 rfl rfl ?_
                      refine z_laldn 78 dX10_off_77 rfl (by first | assumption | rfl) (by omega) ?_
                      rw [hO2 v hv]
                      refine zs_lstore_6_10 80 rfl dX10_off_78 rfl rfl ?_
                      refine z_lload 82 dX10_off_80 rfl rfl ?_
                      refine z_lconst 83 (v := 0) dX10_off_82 rfl rfl ?_
                      refine z_lcmp 84 dX10_off_83 rfl ?_
                      refine z_if_ne 93 87 dX10_off_84 (by decide) rfl (fun h84 => ?_) (fun h84 => ?_)
                      · rw [lg_cmp_eq] at h84
                        refine z_iconst 94 (v := nI 0) dX10_off_93 rfl rfl ?_
                        refine zs_istore_8_10 96 rfl dX10_off_94 rfl rfl ?_
                        exact beg 0 (Nat.zero_le _) τ2 ((hF1.mono fT_mS).tr hF2 (fun _ _ h => h) fGo_mS) hX2 (hB1.fr hF2 (by omega) (by intros; omega)) (fun x hx => absurd hx (Nat.not_lt_zero x))
                      · rw [lg_cmp_eq] at h84
                        exact absurd ((pk_lEQ (by omega) (by decide)).mp h84) hz
                    · (try rw [nI_ltI (by omega) (by omega)] at h61)
                      omega
                  · exact absurd (nI_pos' (by decide)) h49
                · exact absurd b5 h35
    · rw [if_pos hK] at e0
      refine z_iload_n 1 dX10_off_0 rfl rfl ?_
      refine z_cSI1 4 (tX10_isRow) kX10_isRow dX10_off_1 rfl lX10_95 (Nat.le_of_ble_eq_true rfl) ?_
      rintro _ _ ⟨e1, e2⟩
      replace e1 := e1.symm
      replace e2 := e2.symm
      subst e1
      subst e2
      refine z_ifb_eq 38 7 dX10_off_4 (by decide) rfl (fun h4 => ?_) (fun h4 => ?_)
      · exact absurd b1 h4
      · refine z_aload_n 8 dX10_off_7 rfl rfl ?_
        refine z_iload_n 9 dX10_off_8 rfl rfl ?_
        refine z_cVI1 12 (tX10_isWord (by assumption) (by assumption)) kX10_isWord dX10_off_9 rfl lX10_151 (by first | assumption | rfl) (Nat.le_of_ble_eq_true rfl) ?_
        rintro _ _ ⟨e1, e2⟩
        replace e1 := e1.symm
        replace e2 := e2.symm
        subst e1
        subst e2
        refine z_ifb_eq 38 15 dX10_off_12 (by decide) rfl (fun h12 => ?_) (fun h12 => ?_)
        · exact absurd b2 h12
        · refine z_aload_n 16 dX10_off_15 rfl rfl ?_
          refine z_iload_n 17 dX10_off_16 rfl rfl ?_
          refine z_cVI1 20 (tX10_isWord (by assumption) (by assumption)) kX10_isWord dX10_off_17 rfl lX10_151 (by first | assumption | rfl) (Nat.le_of_ble_eq_true rfl) ?_
          rintro _ _ ⟨e1, e2⟩
          replace e1 := e1.symm
          replace e2 := e2.symm
          subst e1
          subst e2
          refine z_ifb_eq 38 23 dX10_off_20 (by decide) rfl (fun h20 => ?_) (fun h20 => ?_)
          · exact absurd b3 h20
          · refine z_iload_n 24 dX10_off_23 rfl rfl ?_
            refine z_iload_n 25 dX10_off_24 rfl rfl ?_
            refine z_icmp_eq 38 28 dX10_off_25 (by decide) rfl (fun h25 => ?_) (fun h25 => ?_)
            · exact absurd h25 b4
            · refine z_iload 30 dX10_off_28 rfl rfl ?_
              refine z_iconst 31 (v := nI 0) dX10_off_30 rfl rfl ?_
              refine z_iconst 32 (v := nI 3) dX10_off_31 rfl rfl ?_
              refine z_cSI3 35 (tX10_in) kX10_in dX10_off_32 rfl lX10_91 (Nat.le_of_ble_eq_true rfl) ?_
              rintro _ _ ⟨e1, e2⟩
              replace e1 := e1.symm
              replace e2 := e2.symm
              subst e1
              subst e2
              rw [in_k (by decide)]
              refine z_ifb_ne 40 38 dX10_off_35 (by decide) rfl (fun h35 => ?_) (fun h35 => ?_)
              · refine z_aload_n 41 dX10_off_40 rfl rfl ?_
                refine z_iload_n 42 dX10_off_41 rfl rfl ?_
                refine z_cVI1 45 (tX10_askedTable hW hX hr) kX10_askedTable dX10_off_42 rfl lX10_238 (by first | assumption | rfl) (Nat.le_of_ble_eq_true rfl) ?_
                rintro x1 τ1 hx
                obtain ⟨_, e1, hF1, hX1, hB1⟩ := hx.resolve_right (fun z => z.1 hD)
                subst e1
                rw [hsz] at hB1
                refine zs_istore_5_10 47 rfl dX10_off_45 rfl rfl ?_
                refine z_iload 49 dX10_off_47 rfl rfl ?_
                refine z_if_ge 55 52 dX10_off_49 (by decide) rfl (fun h49 => ?_) (fun h49 => ?_)
                · refine z_iload 57 dX10_off_55 rfl rfl ?_
                  refine z_aload_n 58 dX10_off_57 rfl rfl ?_
                  refine z_cVI0 61 (tX10_steps hB1 n8) kX10_steps dX10_off_58 rfl lX10_232 (by first | assumption | rfl) (Nat.le_of_ble_eq_true rfl) ?_
                  rintro _ _ ⟨e1, e2⟩
                  replace e1 := e1.symm
                  replace e2 := e2.symm
                  subst e1
                  subst e2
                  refine z_icmp_lt 66 64 dX10_off_61 (by decide) rfl (fun h61 => ?_) (fun h61 => ?_)
                  · (try rw [nI_ltI (by omega) (by omega)] at h61)
                    omega
                  · (try rw [nI_ltI (by omega) (by omega)] at h61)
                    refine z_iconst 65 (v := (-1)) dX10_off_64 rfl rfl ?_
                    refine z_ri dX10_off_65 rfl ?_
                    exact qm0 e0 hX1 (hF1.mono (by intros; omega))
                · exact absurd (nI_pos' (by decide)) h49
              · exact absurd b5 h35
  · rw [if_pos hD] at e0
    refine z_iload_n 1 dX10_off_0 rfl rfl ?_
    refine z_cSI1 4 (tX10_isRow) kX10_isRow dX10_off_1 rfl lX10_95 (Nat.le_of_ble_eq_true rfl) ?_
    rintro _ _ ⟨e1, e2⟩
    replace e1 := e1.symm
    replace e2 := e2.symm
    subst e1
    subst e2
    refine z_ifb_eq 38 7 dX10_off_4 (by decide) rfl (fun h4 => ?_) (fun h4 => ?_)
    · exact absurd b1 h4
    · refine z_aload_n 8 dX10_off_7 rfl rfl ?_
      refine z_iload_n 9 dX10_off_8 rfl rfl ?_
      refine z_cVI1 12 (tX10_isWord (by assumption) (by assumption)) kX10_isWord dX10_off_9 rfl lX10_151 (by first | assumption | rfl) (Nat.le_of_ble_eq_true rfl) ?_
      rintro _ _ ⟨e1, e2⟩
      replace e1 := e1.symm
      replace e2 := e2.symm
      subst e1
      subst e2
      refine z_ifb_eq 38 15 dX10_off_12 (by decide) rfl (fun h12 => ?_) (fun h12 => ?_)
      · exact absurd b2 h12
      · refine z_aload_n 16 dX10_off_15 rfl rfl ?_
        refine z_iload_n 17 dX10_off_16 rfl rfl ?_
        refine z_cVI1 20 (tX10_isWord (by assumption) (by assumption)) kX10_isWord dX10_off_17 rfl lX10_151 (by first | assumption | rfl) (Nat.le_of_ble_eq_true rfl) ?_
        rintro _ _ ⟨e1, e2⟩
        replace e1 := e1.symm
        replace e2 := e2.symm
        subst e1
        subst e2
        refine z_ifb_eq 38 23 dX10_off_20 (by decide) rfl (fun h20 => ?_) (fun h20 => ?_)
        · exact absurd b3 h20
        · refine z_iload_n 24 dX10_off_23 rfl rfl ?_
          refine z_iload_n 25 dX10_off_24 rfl rfl ?_
          refine z_icmp_eq 38 28 dX10_off_25 (by decide) rfl (fun h25 => ?_) (fun h25 => ?_)
          · exact absurd h25 b4
          · refine z_iload 30 dX10_off_28 rfl rfl ?_
            refine z_iconst 31 (v := nI 0) dX10_off_30 rfl rfl ?_
            refine z_iconst 32 (v := nI 3) dX10_off_31 rfl rfl ?_
            refine z_cSI3 35 (tX10_in) kX10_in dX10_off_32 rfl lX10_91 (Nat.le_of_ble_eq_true rfl) ?_
            rintro _ _ ⟨e1, e2⟩
            replace e1 := e1.symm
            replace e2 := e2.symm
            subst e1
            subst e2
            rw [in_k (by decide)]
            refine z_ifb_ne 40 38 dX10_off_35 (by decide) rfl (fun h35 => ?_) (fun h35 => ?_)
            · refine z_aload_n 41 dX10_off_40 rfl rfl ?_
              refine z_iload_n 42 dX10_off_41 rfl rfl ?_
              refine z_cVI1 45 (tX10_askedTable hW hX hr) kX10_askedTable dX10_off_42 rfl lX10_238 (by first | assumption | rfl) (Nat.le_of_ble_eq_true rfl) ?_
              rintro x1 τ1 hx
              obtain ⟨_, e1, e2⟩ := hx.resolve_left (fun z => hD z.1)
              subst e1
              subst e2
              refine zs_istore_5_10 47 rfl dX10_off_45 rfl rfl ?_
              refine z_iload 49 dX10_off_47 rfl rfl ?_
              refine z_if_ge 55 52 dX10_off_49 (by decide) rfl (fun h49 => ?_) (fun h49 => ?_)
              · exact absurd h49 (by decide)
              · refine z_iload 54 dX10_off_52 rfl rfl ?_
                refine z_ri dX10_off_54 rfl ?_
                exact qmf hW e0 hpl hX Fr.rf
            · exact absurd b5 h35
