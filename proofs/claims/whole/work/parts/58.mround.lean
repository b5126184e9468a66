/-! the round of the reference -/
def OdM (σ : zM) (bw : Nat) (o : Nat → Nat) : Prop := ∀ w, w < bw → gl σ 117 w = lN (o w)
abbrev fGo (a j : Nat) : Prop := a = 102 ∧ (j = 16 ∨ j = 18) ∨ 112 ≤ a ∧ a ≤ 115 ∨ a = 117 ∨ a = 118
theorem fGo_mS : ∀ a j, fGo a j → mS a j := by unfold mS; intros; omega
set_option maxRecDepth 20000 in
theorem tX10_steps {E : zE} {d : Nat} {σ : zM} {n : Nat} {t : Nat → Nat} (hB : mTb σ n t) (h8 : n ≤ 8) : Ret E mX10_steps d [zr E 102] σ (qI fun x τ => x = nI (n / 2) ∧ τ = σ) := by
  refine Ret.of [some (zr E 102)] (by decide +kernel) (Nat.le_of_ble_eq_true rfl) rfl ?_
  refine z_aload_n 1 dX10_steps_0 rfl rfl ?_
  refine gX10_227 4 rfl dX10_steps_1 rfl ?_
  rw [hB.1]
  refine z_iconst 5 (v := nI 2) dX10_steps_4 rfl rfl ?_
  refine z_idiv 6 dX10_steps_5 rfl (by decide) ?_
  rw [pk_div (by omega) (by decide) (by decide)]
  refine z_ri dX10_steps_6 rfl ?_
  exact ⟨rfl, rfl⟩
set_option maxRecDepth 20000 in
theorem tX10_whole {E : zE} {d : Nat} {σ : zM} {n : Nat} (h8 : n ≤ 8) : Ret E mX10_whole d [.int (nI n)] σ (qJ fun x τ => x = lN (24 ^ n) ∧ τ = σ) := by
  refine Ret.of [some (.int (nI n)), none, none, none] (by decide +kernel) (Nat.le_of_ble_eq_true rfl) rfl ?_
  have loop : ∀ i, i ≤ n → At E mX10_whole d (qJ fun x τ => x = lN (24 ^ n) ∧ τ = σ) 4 [some (.int (nI n)), some (.long (lN (24 ^ i))), none, some (.int (nI i))] [] σ := by
    refine z_up (fun i hi ih => ?_)
    by_cases hie : i = n
    · rw [hie]
      refine z_iload_n 5 dX10_whole_4 rfl rfl ?_
      refine z_iload_n 6 dX10_whole_5 rfl rfl ?_
      refine z_icmp_ge 21 9 dX10_whole_6 (by decide) rfl (fun h6 => ?_) (fun h6 => ?_)
      · (try rw [nI_leI (by omega) (by omega)] at h6)
        refine z_lload_n 22 dX10_whole_21 rfl rfl ?_
        refine z_rl dX10_whole_22 rfl ?_
        exact ⟨rfl, rfl⟩
      · (try rw [nI_leI (by omega) (by omega)] at h6)
        omega
    · have hih := ih (i + 1) (by omega) (by omega)
      rw [Nat.pow_succ] at hih
      refine z_iload_n 5 dX10_whole_4 rfl rfl ?_
      refine z_iload_n 6 dX10_whole_5 rfl rfl ?_
      refine z_icmp_ge 21 9 dX10_whole_6 (by decide) rfl (fun h6 => ?_) (fun h6 => ?_)
      · (try rw [nI_leI (by omega) (by omega)] at h6)
        omega
      · (try rw [nI_leI (by omega) (by omega)] at h6)
        refine z_lload_n 10 dX10_whole_9 rfl rfl ?_
        refine z_ldc2 13 dX10_whole_10 rfl qX10_230 ?_
        refine z_lmul 14 dX10_whole_13 rfl ?_
        rw [show (24 : Int64) = lN 24 from rfl, lN_mul]
        refine zs_lstore_n_1_4 15 rfl dX10_whole_14 rfl rfl ?_
        refine zs_iinc_3_4_1 18 rfl dX10_whole_15 rfl rfl ?_
        rw [nI_add]
        refine z_goto 4 dX10_whole_18 rfl ?_
        exact hih
  refine z_lconst 1 (v := 1) dX10_whole_0 rfl rfl ?_
  refine zs_lstore_n_1_4 2 rfl dX10_whole_1 rfl rfl ?_
  refine z_iconst 3 (v := nI 0) dX10_whole_2 rfl rfl ?_
  refine zs_istore_n_3_4 4 rfl dX10_whole_3 rfl rfl ?_
  exact loop 0 (Nat.zero_le _)
set_option maxRecDepth 20000 in
theorem tX10_goOn {E : zE} {d : Nat} {σ : zM} {S : sS} {n s k : Nat} {t o : Nat → Nat} (hW : WF S) (hX : RM S σ) (hT : TbOK S n t) (hB : mTb σ n t) (hs : s < 8) (hk : k < 8) (hO : OdM σ (sBw S 0) o) (hL : ∀ w, w < sBw S 0 → o w < 2 ^ 63) : Ret E mX10_goOn (d + 7) [zr E 102, .int (nI s), .int (nI k)] σ (qV fun τ => Fr fGo σ τ ∧ RM S τ ∧ OdM τ (sBw S 0) (nxO S (t ((s + 2 * k) % n)) (t ((s + 2 * k + 1) % n)) o)) := by
  have h8 := hW.2.1.1
  have hb8 := bw_le hW (show 0 < 2 by omega)
  have n2 := hT.1.1
  have n8 := hT.1.2.1
  have m1 := Nat.mod_lt (s + 2 * k) (show n > 0 by omega)
  have m2 := Nat.mod_lt (s + 2 * k + 1) (show n > 0 by omega)
  have t1 := (hT.2 _ m1).1
  have t2 := (hT.2 _ m2).1
  have hne : ¬ nI n = 0 := fun z => by
    rw [nI_eq0 (by omega)] at z
    omega
  refine Ret.of [some (zr E 102), some (.int (nI s)), some (.int (nI k)), none, none, none, none] (by decide +kernel) (Nat.le_of_ble_eq_true rfl) rfl ?_
  refine z_aload_n 1 dX10_goOn_0 rfl rfl ?_
  refine gX10_53 4 rfl dX10_goOn_1 rfl ?_
  refine z_iload_n 5 dX10_goOn_4 rfl rfl ?_
  refine z_iconst 6 (v := nI 2) dX10_goOn_5 rfl rfl ?_
  refine z_iload_n 7 dX10_goOn_6 rfl rfl ?_
  skip
  refine z_imul 8 dX10_goOn_7 rfl ?_
  rw [nI_mul]
  refine z_iadd 9 dX10_goOn_8 rfl ?_
  rw [nI_add]
  refine z_aload_n 10 dX10_goOn_9 rfl rfl ?_
  refine gX10_227 13 rfl dX10_goOn_10 rfl ?_
  rw [hB.1]
  refine z_irem 14 dX10_goOn_13 rfl hne ?_
  rw [pk_rem (by omega) (by omega) (by omega)]
  refine z_ialdn 15 dX10_goOn_14 rfl (by first | assumption | rfl) (by omega) ?_
  rw [hB.2 _ m1]
  refine zs_istore_n_3_7 16 rfl dX10_goOn_15 rfl rfl ?_
  refine z_aload_n 17 dX10_goOn_16 rfl rfl ?_
  refine gX10_53 20 rfl dX10_goOn_17 rfl ?_
  refine z_iload_n 21 dX10_goOn_20 rfl rfl ?_
  refine z_iconst 22 (v := nI 2) dX10_goOn_21 rfl rfl ?_
  refine z_iload_n 23 dX10_goOn_22 rfl rfl ?_
  refine z_imul 24 dX10_goOn_23 rfl ?_
  rw [nI_mul]
  refine z_iadd 25 dX10_goOn_24 rfl ?_
  rw [nI_add]
  refine z_iconst 26 (v := nI 1) dX10_goOn_25 rfl rfl ?_
  refine z_iadd 27 dX10_goOn_26 rfl ?_
  rw [nI_add]
  refine z_aload_n 28 dX10_goOn_27 rfl rfl ?_
  refine gX10_227 31 rfl dX10_goOn_28 rfl ?_
  rw [hB.1]
  refine z_irem 32 dX10_goOn_31 rfl hne ?_
  rw [pk_rem (by omega) (by omega) (by omega)]
  refine z_ialdn 33 dX10_goOn_32 rfl (by first | assumption | rfl) (by omega) ?_
  rw [hB.2 _ m2]
  refine zs_istore_4_7 35 rfl dX10_goOn_33 rfl rfl ?_
  refine z_iconst 36 (v := nI 0) dX10_goOn_35 rfl rfl ?_
  refine zs_istore_5_7 38 rfl dX10_goOn_36 rfl rfl ?_
  skip
  generalize t ((s + 2 * k) % n) = p at t1 ⊢
  generalize t ((s + 2 * k + 1) % n) = q at t2 ⊢
  have l3 : ∀ i, i ≤ sBw S 0 → ∀ y τ, Fr fGo σ τ → RM S τ → (∀ v, v < sBw S 0 → gl τ 118 v = lN (nxO S p q o v)) → (∀ v, v < i → gl τ 117 v = lN (nxO S p q o v)) → At E mX10_goOn (d + 7) (qV fun τ => Fr fGo σ τ ∧ RM S τ ∧ OdM τ (sBw S 0) (nxO S p q o)) 147 [some (zr E 102), some (.int (nI s)), some (.int (nI k)), some (.int (nI p)), some (.int (nI q)), some (.int (nI i)), y] [] τ := by
    refine z_up (fun i hi ih y τ hF hR hN hv => ?_)
    by_cases hie : i = sBw S 0
    · rw [hie] at hv ⊢
      refine z_iload 149 dX10_goOn_147 rfl rfl ?_
      refine z_aload_n 150 dX10_goOn_149 rfl rfl ?_
      refine z_cVI0 153 (tX10_words (by assumption)) kX10_words dX10_goOn_150 rfl lX10_144 (by first | assumption | rfl) (Nat.le_of_ble_eq_true rfl) ?_
      rintro _ _ ⟨e1, e2⟩
      replace e1 := e1.symm
      replace e2 := e2.symm
      subst e1
      subst e2
      refine z_icmp_ge 176 156 dX10_goOn_153 (by decide) rfl (fun h153 => ?_) (fun h153 => ?_)
      · (try rw [nI_leI (by omega) (by omega)] at h153)
        refine z_rv dX10_goOn_176 rfl ?_
        exact ⟨hF, hR, hv⟩
      · (try rw [nI_leI (by omega) (by omega)] at h153)
        omega
    · have hf : Fr (fun a j => a = 117) τ (sl τ 117 i (lN (nxO S p q o i))) := Fr.rf.sl _ rfl
      refine z_iload 149 dX10_goOn_147 rfl rfl ?_
      refine z_aload_n 150 dX10_goOn_149 rfl rfl ?_
      refine z_cVI0 153 (tX10_words (by assumption)) kX10_words dX10_goOn_150 rfl lX10_144 (by first | assumption | rfl) (Nat.le_of_ble_eq_true rfl) ?_
      rintro _ _ ⟨e1, e2⟩
      replace e1 := e1.symm
      replace e2 := e2.symm
      subst e1
      subst e2
      refine z_icmp_ge 176 156 dX10_goOn_153 (by decide) rfl (fun h153 => ?_) (fun h153 => ?_)
      · (try rw [nI_leI (by omega) (by omega)] at h153)
        omega
      · (try rw [nI_leI (by omega) (by omega)] at h153)
        refine z_aload_n 157 dX10_goOn_156 rfl rfl ?_
        refine gX10_56 160 rfl dX10_goOn_157 rfl ?_
        refine z_iload 162 dX10_goOn_160 rfl rfl ?_
        refine z_aload_n 163 dX10_goOn_162 rfl rfl ?_
        refine gX10_60 166 rfl dX10_goOn_163 rfl ?_
        refine z_iload 168 dX10_goOn_166 rfl rfl ?_
        refine z_laldn 169 dX10_goOn_168 rfl (by first | assumption | rfl) (by omega) ?_
        rw [hN i (by omega)]
        refine z_lastn 170 dX10_goOn_169 rfl (by first | assumption | rfl) (by omega) ?_
        refine zs_iinc_5_7_1 173 rfl dX10_goOn_170 rfl rfl ?_
        rw [nI_add]
        refine z_goto 147 dX10_goOn_173 rfl ?_
        exact ih (i + 1) (by omega) (by omega) y _ (hF.tr hf (fun _ _ h => h) (by intros; omega)) (hR.scr hW (hf.mono (by unfold mS; intros; omega))) (fun v hvv => (gl_s2 _ _ (by omega)).trans (hN v hvv)) (fun v hvv => by
          rw [gl_sl]
          by_cases hki : v = i
          · rw [if_pos ⟨rfl, hki⟩, hki]
          · rw [if_neg (fun z => hki z.2)]; exact hv v (by omega))
  have l2 : ∀ i, i ≤ sBw S 0 → ∀ y τ, Fr fGo σ τ → RM S τ → OdM τ (sBw S 0) o → (∀ v, v < sBw S 0 → gl τ 118 v = lN (nxP S p q o i v)) → At E mX10_goOn (d + 7) (qV fun τ => Fr fGo σ τ ∧ RM S τ ∧ OdM τ (sBw S 0) (nxO S p q o)) 64 [some (zr E 102), some (.int (nI s)), some (.int (nI k)), some (.int (nI p)), some (.int (nI q)), some (.int (nI i)), y] [] τ := by
    refine z_up (fun i hi ih y τ hF hR hO hN => ?_)
    by_cases hie : i = sBw S 0
    · rw [hie] at hN ⊢
      refine z_iload 66 dX10_goOn_64 rfl rfl ?_
      refine z_aload_n 67 dX10_goOn_66 rfl rfl ?_
      refine z_cVI0 70 (tX10_words (by assumption)) kX10_words dX10_goOn_67 rfl lX10_144 (by first | assumption | rfl) (Nat.le_of_ble_eq_true rfl) ?_
      rintro _ _ ⟨e1, e2⟩
      replace e1 := e1.symm
      replace e2 := e2.symm
      subst e1
      subst e2
      refine z_icmp_ge 144 73 dX10_goOn_70 (by decide) rfl (fun h70 => ?_) (fun h70 => ?_)
      · (try rw [nI_leI (by omega) (by omega)] at h70)
        refine z_iconst 145 (v := nI 0) dX10_goOn_144 rfl rfl ?_
        refine zs_istore_5_7 147 rfl dX10_goOn_145 rfl rfl ?_
        exact l3 0 (Nat.zero_le _) _ τ hF hR hN (fun v hv => absurd hv (Nat.not_lt_zero v))
      · (try rw [nI_leI (by omega) (by omega)] at h70)
        omega
    · have hil : i < sBw S 0 := by omega
      have hob := hL i hil
      have er : ∀ v, nxP S p q o (i + 1) v = nxP S p q o i v + o i * stp S p q i v := fun v => rfl
      by_cases h0 : o i = 0
      · have e2 : ∀ v, nxP S p q o (i + 1) v = nxP S p q o i v := fun v => by rw [er, h0, Nat.zero_mul, Nat.add_zero]
        refine z_iload 66 dX10_goOn_64 rfl rfl ?_
        refine z_aload_n 67 dX10_goOn_66 rfl rfl ?_
        refine z_cVI0 70 (tX10_words (by assumption)) kX10_words dX10_goOn_67 rfl lX10_144 (by first | assumption | rfl) (Nat.le_of_ble_eq_true rfl) ?_
        rintro _ _ ⟨e1, e2⟩
        replace e1 := e1.symm
        replace e2 := e2.symm
        subst e1
        subst e2
        refine z_icmp_ge 144 73 dX10_goOn_70 (by decide) rfl (fun h70 => ?_) (fun h70 => ?_)
        · (try rw [nI_leI (by omega) (by omega)] at h70)
          omega
        · (try rw [nI_leI (by omega) (by omega)] at h70)
          refine z_aload_n 74 dX10_goOn_73 rfl rfl ?_
          refine gX10_56 77 rfl dX10_goOn_74 rfl ?_
          refine z_iload 79 dX10_goOn_77 rfl rfl ?_
          refine z_laldn 80 dX10_goOn_79 rfl (by first | assumption | rfl) (by omega) ?_
          rw [hO i hil]
          refine z_lconst 81 (v := 0) dX10_goOn_80 rfl rfl ?_
          refine z_lcmp 82 dX10_goOn_81 rfl ?_
          refine z_if_le 138 85 dX10_goOn_82 (by decide) rfl (fun h82 => ?_) (fun h82 => ?_)
          · rw [lg_cmp_le] at h82
            refine zs_iinc_5_7_1 141 rfl dX10_goOn_138 rfl rfl ?_
            rw [nI_add]
            refine z_goto 64 dX10_goOn_141 rfl ?_
            exact ih (i + 1) (by omega) (by omega) _ τ hF hR hO (fun v hv => by rw [e2]; exact hN v hv)
          · rw [lg_cmp_le] at h82
            exact absurd ((pk_lLE (b := 0) hob (by decide)).mpr (by omega)) h82
      · have inner : ∀ j, j ≤ sBw S 0 → ∀ τ, Fr fGo σ τ → RM S τ → OdM τ (sBw S 0) o → (∀ v, v < sBw S 0 → gi τ 115 v = nI (stp S p q i v)) → (∀ v, v < sBw S 0 → gl τ 118 v = lN (nxP S p q o (if v < j then i + 1 else i) v)) → At E mX10_goOn (d + 7) (qV fun τ => Fr fGo σ τ ∧ RM S τ ∧ OdM τ (sBw S 0) (nxO S p q o)) 97 [some (zr E 102), some (.int (nI s)), some (.int (nI k)), some (.int (nI p)), some (.int (nI q)), some (.int (nI i)), some (.int (nI j))] [] τ := by
          refine z_up (fun j hj jh τ hF hR hO hSh hN => ?_)
          by_cases hje : j = sBw S 0
          · rw [hje] at hN ⊢
            refine z_iload 99 dX10_goOn_97 rfl rfl ?_
            refine z_aload_n 100 dX10_goOn_99 rfl rfl ?_
            refine z_cVI0 103 (tX10_words (by assumption)) kX10_words dX10_goOn_100 rfl lX10_144 (by first | assumption | rfl) (Nat.le_of_ble_eq_true rfl) ?_
            rintro _ _ ⟨e1, e2⟩
            replace e1 := e1.symm
            replace e2 := e2.symm
            subst e1
            subst e2
            refine z_icmp_ge 138 106 dX10_goOn_103 (by decide) rfl (fun h103 => ?_) (fun h103 => ?_)
            · (try rw [nI_leI (by omega) (by omega)] at h103)
              refine zs_iinc_5_7_1 141 rfl dX10_goOn_138 rfl rfl ?_
              rw [nI_add]
              refine z_goto 64 dX10_goOn_141 rfl ?_
              exact ih (i + 1) (by omega) (by omega) _ τ hF hR hO (fun v hv => by
                have := hN v hv
                rw [if_pos hv] at this
                exact this)
            · (try rw [nI_leI (by omega) (by omega)] at h103)
              omega
          · have hjl : j < sBw S 0 := by omega
            have hst := stp_le hW t2 p i hjl
            have hNj := hN j hjl
            rw [if_neg (Nat.lt_irrefl j)] at hNj
            have hf : Fr (fun a b => a = 118) τ (sl τ 118 j (lN (nxP S p q o i j + o i * stp S p q i j))) := Fr.rf.sl _ rfl
            refine z_iload 99 dX10_goOn_97 rfl rfl ?_
            refine z_aload_n 100 dX10_goOn_99 rfl rfl ?_
            refine z_cVI0 103 (tX10_words (by assumption)) kX10_words dX10_goOn_100 rfl lX10_144 (by first | assumption | rfl) (Nat.le_of_ble_eq_true rfl) ?_
            rintro _ _ ⟨e1, e2⟩
            replace e1 := e1.symm
            replace e2 := e2.symm
            subst e1
            subst e2
            refine z_icmp_ge 138 106 dX10_goOn_103 (by decide) rfl (fun h103 => ?_) (fun h103 => ?_)
            · (try rw [nI_leI (by omega) (by omega)] at h103)
              omega
            · (try rw [nI_leI (by omega) (by omega)] at h103)
              refine z_aload_n 107 dX10_goOn_106 rfl rfl ?_
              refine gX10_60 110 rfl dX10_goOn_107 rfl ?_
              refine z_iload 112 dX10_goOn_110 rfl rfl ?_
              refine z_dup2 113 dX10_goOn_112 rfl rfl rfl ?_
              refine z_laldn 114 dX10_goOn_113 rfl (by first | assumption | rfl) (by omega) ?_
              rw [hNj]
              refine z_aload_n 115 dX10_goOn_114 rfl rfl ?_
              refine gX10_56 118 rfl dX10_goOn_115 rfl ?_
              refine z_iload 120 dX10_goOn_118 rfl rfl ?_
              refine z_laldn 121 dX10_goOn_120 rfl (by first | assumption | rfl) (by omega) ?_
              rw [hO i hil]
              refine z_aload_n 122 dX10_goOn_121 rfl rfl ?_
              refine gX10_50 125 rfl dX10_goOn_122 rfl ?_
              refine z_iload 127 dX10_goOn_125 rfl rfl ?_
              refine z_ialdn 128 dX10_goOn_127 rfl (by first | assumption | rfl) (by omega) ?_
              rw [hSh j hjl]
              refine z_i2l 129 dX10_goOn_128 rfl ?_
              rw [nI_l (by omega)]
              refine z_lmul 130 dX10_goOn_129 rfl ?_
              rw [lN_mul]
              refine z_ladd 131 dX10_goOn_130 rfl ?_
              rw [lN_add]
              refine z_lastn 132 dX10_goOn_131 rfl (by first | assumption | rfl) (by omega) ?_
              refine zs_iinc_6_7_1 135 rfl dX10_goOn_132 rfl rfl ?_
              rw [nI_add]
              refine z_goto 97 dX10_goOn_135 rfl ?_
              exact jh (j + 1) (by omega) (by omega) _ (hF.tr hf (fun _ _ h => h) (by intros; omega)) (hR.scr hW (hf.mono (by unfold mS; intros; omega))) (fun v hvv => (gl_s2 _ _ (by omega)).trans (hO v hvv)) (fun v hvv => (hf.gi (by omega)).trans (hSh v hvv)) (fun v hvv => by
                rw [gl_sl]
                by_cases hki : v = j
                · rw [if_pos ⟨rfl, hki⟩, hki, if_pos (Nat.lt_succ_self j)]; rfl
                · rw [if_neg (fun z => hki z.2), hN v hvv]
                  by_cases hvj : v < j
                  · rw [if_pos hvj, if_pos (by omega)]
                  · rw [if_neg hvj, if_neg (by omega)])
        refine z_iload 66 dX10_goOn_64 rfl rfl ?_
        refine z_aload_n 67 dX10_goOn_66 rfl rfl ?_
        refine z_cVI0 70 (tX10_words (by assumption)) kX10_words dX10_goOn_67 rfl lX10_144 (by first | assumption | rfl) (Nat.le_of_ble_eq_true rfl) ?_
        rintro _ _ ⟨e1, e2⟩
        replace e1 := e1.symm
        replace e2 := e2.symm
        subst e1
        subst e2
        refine z_icmp_ge 144 73 dX10_goOn_70 (by decide) rfl (fun h70 => ?_) (fun h70 => ?_)
        · (try rw [nI_leI (by omega) (by omega)] at h70)
          omega
        · (try rw [nI_leI (by omega) (by omega)] at h70)
          refine z_aload_n 74 dX10_goOn_73 rfl rfl ?_
          refine gX10_56 77 rfl dX10_goOn_74 rfl ?_
          refine z_iload 79 dX10_goOn_77 rfl rfl ?_
          refine z_laldn 80 dX10_goOn_79 rfl (by first | assumption | rfl) (by omega) ?_
          rw [hO i hil]
          refine z_lconst 81 (v := 0) dX10_goOn_80 rfl rfl ?_
          refine z_lcmp 82 dX10_goOn_81 rfl ?_
          refine z_if_le 138 85 dX10_goOn_82 (by decide) rfl (fun h82 => ?_) (fun h82 => ?_)
          · rw [lg_cmp_le] at h82
            exact absurd ((pk_lLE (b := 0) hob (by decide)).mp h82) (by omega)
          · rw [lg_cmp_le] at h82
            refine z_aload_n 86 dX10_goOn_85 rfl rfl ?_
            refine z_iload_n 87 dX10_goOn_86 rfl rfl ?_
            refine z_iload 89 dX10_goOn_87 rfl rfl ?_
            refine z_iload 91 dX10_goOn_89 rfl rfl ?_
            refine z_cVV3 94 (tX10_setStep hW hR t1 t2 hil) kX10_setStep dX10_goOn_91 rfl lX10_221 (by first | assumption | rfl) (Nat.le_of_ble_eq_true rfl) ?_
            rintro τ1 ⟨hF1, hS1⟩
            have hX1 : RM S τ1 := hR.scr hW (hF1.mono (by unfold mS; intros; omega))
            refine z_iconst 95 (v := nI 0) dX10_goOn_94 rfl rfl ?_
            refine zs_istore_6_7 97 rfl dX10_goOn_95 rfl rfl ?_
            exact inner 0 (Nat.zero_le _) τ1 (hF.tr hF1 (fun _ _ h => h) (by intros; omega)) hX1 (fun v hv => (hF1.gl (by omega)).trans (hO v hv)) (fun v hv => hS1 v hv) (fun v hv => by rw [if_neg (Nat.not_lt_zero v), hF1.gl (by omega)]; exact hN v hv)
  have l1 : ∀ i, i ≤ sBw S 0 → ∀ y τ, Fr (fun a _ => a = 118) σ τ → RM S τ → (∀ v, v < i → gl τ 118 v = lN 0) → At E mX10_goOn (d + 7) (qV fun τ => Fr fGo σ τ ∧ RM S τ ∧ OdM τ (sBw S 0) (nxO S p q o)) 38 [some (zr E 102), some (.int (nI s)), some (.int (nI k)), some (.int (nI p)), some (.int (nI q)), some (.int (nI i)), y] [] τ := by
    refine z_up (fun i hi ih y τ hF hR hv => ?_)
    by_cases hie : i = sBw S 0
    · rw [hie] at hv ⊢
      refine z_iload 40 dX10_goOn_38 rfl rfl ?_
      refine z_aload_n 41 dX10_goOn_40 rfl rfl ?_
      refine z_cVI0 44 (tX10_words (by assumption)) kX10_words dX10_goOn_41 rfl lX10_144 (by first | assumption | rfl) (Nat.le_of_ble_eq_true rfl) ?_
      rintro _ _ ⟨e1, e2⟩
      replace e1 := e1.symm
      replace e2 := e2.symm
      subst e1
      subst e2
      refine z_icmp_ge 61 47 dX10_goOn_44 (by decide) rfl (fun h44 => ?_) (fun h44 => ?_)
      · (try rw [nI_leI (by omega) (by omega)] at h44)
        refine z_iconst 62 (v := nI 0) dX10_goOn_61 rfl rfl ?_
        refine zs_istore_5_7 64 rfl dX10_goOn_62 rfl rfl ?_
        exact l2 0 (Nat.zero_le _) _ τ (hF.mono (by intros; omega)) hR (fun w hw => (hF.gl (by omega)).trans (hO w hw)) hv
      · (try rw [nI_leI (by omega) (by omega)] at h44)
        omega
    · have hf : Fr (fun a b => a = 118) τ (sl τ 118 i 0) := Fr.rf.sl _ rfl
      refine z_iload 40 dX10_goOn_38 rfl rfl ?_
      refine z_aload_n 41 dX10_goOn_40 rfl rfl ?_
      refine z_cVI0 44 (tX10_words (by assumption)) kX10_words dX10_goOn_41 rfl lX10_144 (by first | assumption | rfl) (Nat.le_of_ble_eq_true rfl) ?_
      rintro _ _ ⟨e1, e2⟩
      replace e1 := e1.symm
      replace e2 := e2.symm
      subst e1
      subst e2
      refine z_icmp_ge 61 47 dX10_goOn_44 (by decide) rfl (fun h44 => ?_) (fun h44 => ?_)
      · (try rw [nI_leI (by omega) (by omega)] at h44)
        omega
      · (try rw [nI_leI (by omega) (by omega)] at h44)
        refine z_aload_n 48 dX10_goOn_47 rfl rfl ?_
        refine gX10_60 51 rfl dX10_goOn_48 rfl ?_
        refine z_iload 53 dX10_goOn_51 rfl rfl ?_
        refine z_lconst 54 (v := 0) dX10_goOn_53 rfl rfl ?_
        refine z_lastn 55 dX10_goOn_54 rfl (by first | assumption | rfl) (by omega) ?_
        refine zs_iinc_5_7_1 58 rfl dX10_goOn_55 rfl rfl ?_
        rw [nI_add]
        refine z_goto 38 dX10_goOn_58 rfl ?_
        exact ih (i + 1) (by omega) (by omega) y _ (hF.tr hf (fun _ _ h => h) (fun _ _ h => h)) (hR.scr hW (hf.mono (by unfold mS; intros; omega))) (fun v hvv => by
          rw [gl_sl]
          by_cases hki : v = i
          · rw [if_pos ⟨rfl, hki⟩]; rfl
          · rw [if_neg (fun z => hki z.2)]; exact hv v (by omega))
  exact l1 0 (Nat.zero_le _) none σ Fr.rf hX (fun v hv => absurd hv (Nat.not_lt_zero v))
set_option maxRecDepth 20000 in
theorem tX10_setOdds {E : zE} {d : Nat} {σ : zM} {S : sS} {n s w : Nat} {t : Nat → Nat} (hW : WF S) (hX : RM S σ) (hT : TbOK S n t) (hB : mTb σ n t) (hs : s < 8) (hw : w < sBw S 0) : Ret E mX10_setOdds (d + 8) [zr E 102, .int (nI s), .int (nI w)] σ (qV fun τ => Fr fGo σ τ ∧ RM S τ ∧ OdM τ (sBw S 0) (odN S t n s (eW w) (n / 2))) := by
  have h8 := hW.2.1.1
  have hb8 := bw_le hW (show 0 < 2 by omega)
  have n2 := hT.1.1
  have n8 := hT.1.2.1
  refine Ret.of [some (zr E 102), some (.int (nI s)), some (.int (nI w)), none] (by decide +kernel) (Nat.le_of_ble_eq_true rfl) rfl ?_
  have l2 : ∀ i, i ≤ n / 2 → ∀ τ, Fr fGo σ τ → RM S τ → OdM τ (sBw S 0) (odN S t n s (eW w) i) → At E mX10_setOdds (d + 8) (qV fun τ => Fr fGo σ τ ∧ RM S τ ∧ OdM τ (sBw S 0) (odN S t n s (eW w) (n / 2))) 34 [some (zr E 102), some (.int (nI s)), some (.int (nI w)), some (.int (nI i))] [] τ := by
    refine z_up (fun i hi ih τ hF hR hO => ?_)
    have hB' := hB.fr hF (by omega) (by intros; omega)
    by_cases hie : i = n / 2
    · rw [hie] at hO ⊢
      refine z_iload_n 35 dX10_setOdds_34 rfl rfl ?_
      refine z_aload_n 36 dX10_setOdds_35 rfl rfl ?_
      refine z_cVI0 39 (tX10_steps hB' n8) kX10_steps dX10_setOdds_36 rfl lX10_232 (by first | assumption | rfl) (Nat.le_of_ble_eq_true rfl) ?_
      rintro _ _ ⟨e1, e2⟩
      replace e1 := e1.symm
      replace e2 := e2.symm
      subst e1
      subst e2
      refine z_icmp_ge 54 42 dX10_setOdds_39 (by decide) rfl (fun h39 => ?_) (fun h39 => ?_)
      · (try rw [nI_leI (by omega) (by omega)] at h39)
        refine z_rv dX10_setOdds_54 rfl ?_
        exact ⟨hF, hR, hO⟩
      · (try rw [nI_leI (by omega) (by omega)] at h39)
        omega
    · have hob : ∀ x, x < sBw S 0 → odN S t n s (eW w) i x < 2 ^ 63 := fun x hx => by
        have a1 := odN_le hW hT s hw i hx
        have a2 := p24 (show i ≤ 4 by omega)
        omega
      refine z_iload_n 35 dX10_setOdds_34 rfl rfl ?_
      refine z_aload_n 36 dX10_setOdds_35 rfl rfl ?_
      refine z_cVI0 39 (tX10_steps hB' n8) kX10_steps dX10_setOdds_36 rfl lX10_232 (by first | assumption | rfl) (Nat.le_of_ble_eq_true rfl) ?_
      rintro _ _ ⟨e1, e2⟩
      replace e1 := e1.symm
      replace e2 := e2.symm
      subst e1
      subst e2
      refine z_icmp_ge 54 42 dX10_setOdds_39 (by decide) rfl (fun h39 => ?_) (fun h39 => ?_)
      · (try rw [nI_leI (by omega) (by omega)] at h39)
        omega
      · (try rw [nI_leI (by omega) (by omega)] at h39)
        refine z_aload_n 43 dX10_setOdds_42 rfl rfl ?_
        refine z_iload_n 44 dX10_setOdds_43 rfl rfl ?_
        refine z_iload_n 45 dX10_setOdds_44 rfl rfl ?_
        refine z_cVV2 48 (tX10_goOn hW hR hT hB' hs (show i < 8 by omega) hO hob) kX10_goOn dX10_setOdds_45 rfl lX10_235 (by first | assumption | rfl) (Nat.le_of_ble_eq_true rfl) ?_
        rintro τ1 ⟨hF1, hX1, hO1⟩
        refine zs_iinc_3_4_1 51 rfl dX10_setOdds_48 rfl rfl ?_
        rw [nI_add]
        refine z_goto 34 dX10_setOdds_51 rfl ?_
        exact ih (i + 1) (by omega) (by omega) τ1 (hF.tr hF1 (fun _ _ h => h) (fun _ _ h => h)) hX1 hO1
  have l1 : ∀ i, i ≤ sBw S 0 → ∀ τ, Fr (fun a _ => a = 117) σ τ → RM S τ → (∀ v, v < i → gl τ 117 v = lN (eW w v)) → At E mX10_setOdds (d + 8) (qV fun τ => Fr fGo σ τ ∧ RM S τ ∧ OdM τ (sBw S 0) (odN S t n s (eW w) (n / 2))) 2 [some (zr E 102), some (.int (nI s)), some (.int (nI w)), some (.int (nI i))] [] τ := by
    refine z_up (fun i hi ih τ hF hR hv => ?_)
    by_cases hie : i = sBw S 0
    · rw [hie] at hv ⊢
      refine z_iload_n 3 dX10_setOdds_2 rfl rfl ?_
      refine z_aload_n 4 dX10_setOdds_3 rfl rfl ?_
      refine z_cVI0 7 (tX10_words (by assumption)) kX10_words dX10_setOdds_4 rfl lX10_144 (by first | assumption | rfl) (Nat.le_of_ble_eq_true rfl) ?_
      rintro _ _ ⟨e1, e2⟩
      replace e1 := e1.symm
      replace e2 := e2.symm
      subst e1
      subst e2
      refine z_icmp_ge 32 10 dX10_setOdds_7 (by decide) rfl (fun h7 => ?_) (fun h7 => ?_)
      · (try rw [nI_leI (by omega) (by omega)] at h7)
        refine z_iconst 33 (v := nI 0) dX10_setOdds_32 rfl rfl ?_
        refine zs_istore_n_3_4 34 rfl dX10_setOdds_33 rfl rfl ?_
        exact l2 0 (Nat.zero_le _) τ (hF.mono (by intros; omega)) hR hv
      · (try rw [nI_leI (by omega) (by omega)] at h7)
        omega
    · refine z_iload_n 3 dX10_setOdds_2 rfl rfl ?_
      refine z_aload_n 4 dX10_setOdds_3 rfl rfl ?_
      refine z_cVI0 7 (tX10_words (by assumption)) kX10_words dX10_setOdds_4 rfl lX10_144 (by first | assumption | rfl) (Nat.le_of_ble_eq_true rfl) ?_
      rintro _ _ ⟨e1, e2⟩
      replace e1 := e1.symm
      replace e2 := e2.symm
      subst e1
      subst e2
      refine z_icmp_ge 32 10 dX10_setOdds_7 (by decide) rfl (fun h7 => ?_) (fun h7 => ?_)
      · (try rw [nI_leI (by omega) (by omega)] at h7)
        omega
      · (try rw [nI_leI (by omega) (by omega)] at h7)
        refine z_aload_n 11 dX10_setOdds_10 rfl rfl ?_
        refine gX10_56 14 rfl dX10_setOdds_11 rfl ?_
        refine z_iload_n 15 dX10_setOdds_14 rfl rfl ?_
        refine z_iload_n 16 dX10_setOdds_15 rfl rfl ?_
        refine z_iload_n 17 dX10_setOdds_16 rfl rfl ?_
        refine z_icmp_ne 24 20 dX10_setOdds_17 (by decide) rfl (fun h17 => ?_) (fun h17 => ?_)
        · (try rw [nI_eq (by omega) (by omega)] at h17)
          have er : (0 : Int64) = lN (eW w i) := by (unfold eW; rw [if_neg h17]; rfl)
          refine z_lconst 25 (v := 0) dX10_setOdds_24 rfl rfl ?_
          rw [er]
          refine z_lastn 26 dX10_setOdds_25 rfl (by first | assumption | rfl) (by omega) ?_
          refine zs_iinc_3_4_1 29 rfl dX10_setOdds_26 rfl rfl ?_
          rw [nI_add]
          refine z_goto 2 dX10_setOdds_29 rfl ?_
          have hf : Fr (fun a b => a = 117) τ (sl τ 117 i (lN (eW w i))) := Fr.rf.sl _ rfl
          exact ih (i + 1) (by omega) (by omega) _ (hF.tr hf (fun _ _ h => h) (fun _ _ h => h)) (hR.scr hW (hf.mono (by unfold mS; intros; omega))) (fun v hvv => by
            rw [gl_sl]
            by_cases hki : v = i
            · rw [if_pos ⟨rfl, hki⟩, hki]
            · rw [if_neg (fun z => hki z.2)]; exact hv v (by omega))
        · (try rw [nI_eq (by omega) (by omega)] at h17)
          have er : (1 : Int64) = lN (eW w i) := by (unfold eW; rw [if_pos h17]; rfl)
          refine z_lconst 21 (v := 1) dX10_setOdds_20 rfl rfl ?_
          refine z_goto 25 dX10_setOdds_21 rfl ?_
          rw [er]
          refine z_lastn 26 dX10_setOdds_25 rfl (by first | assumption | rfl) (by omega) ?_
          refine zs_iinc_3_4_1 29 rfl dX10_setOdds_26 rfl rfl ?_
          rw [nI_add]
          refine z_goto 2 dX10_setOdds_29 rfl ?_
          have hf : Fr (fun a b => a = 117) τ (sl τ 117 i (lN (eW w i))) := Fr.rf.sl _ rfl
          exact ih (i + 1) (by omega) (by omega) _ (hF.tr hf (fun _ _ h => h) (fun _ _ h => h)) (hR.scr hW (hf.mono (by unfold mS; intros; omega))) (fun v hvv => by
            rw [gl_sl]
            by_cases hki : v = i
            · rw [if_pos ⟨rfl, hki⟩, hki]
            · rw [if_neg (fun z => hki z.2)]; exact hv v (by omega))
  refine z_iconst 1 (v := nI 0) dX10_setOdds_0 rfl rfl ?_
  refine zs_istore_n_3_4 2 rfl dX10_setOdds_1 rfl rfl ?_
  exact l1 0 (Nat.zero_le _) σ Fr.rf hX (fun v hv => absurd hv (Nat.not_lt_zero v))
