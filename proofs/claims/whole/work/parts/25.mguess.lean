/-! guessing, of the reference -/
def mDrG (σ : zM) (n : Nat) (g : Nat → Nat) : Prop := gi σ 102 18 = nI n ∧ ∀ i, i < n → gi σ 113 i = nI (g i)
theorem mDrG.fr {P : Nat → Nat → Prop} {σ τ : zM} {n : Nat} {g : Nat → Nat} (h : mDrG σ n g) (hF : Fr P σ τ) (h1 : ¬ P 102 18) (h2 : ∀ j, ¬ P 113 j) : mDrG τ n g := ⟨(hF.gi h1).trans h.1, fun i hi => (hF.gi (h2 _)).trans (h.2 i hi)⟩
/-- a player as it should be -/
def PlOK (q : sPly) (bw : Nat) : Prop := q.1 < 6 ∧ q.2.1 < 2 ∧ 1 ≤ q.2.2.1 ∧ q.2.2.1 ≤ 6 ∧ q.2.2.2 < bw
def mByV (σ : zM) (v : Int32) (bw : Nat) (D : Nat → Nat) : Prop := (v < 0 ∧ ∀ w, D w = 0) ∨ ∃ (c : Nat) (q : sPly) (u : Nat → Nat → Nat), v = nI c ∧ c < 9 ∧ mPy σ c q ∧ PlOK q bw ∧ mBx σ q.2.1 bw u ∧ (∀ w, w < bw → ∀ p, p < 10 → u w p ≤ 9) ∧ ∀ w, w < bw → D w = bset (dList (u w) (dMost q))
theorem mByV.fr {P : Nat → Nat → Prop} {σ τ : zM} {v : Int32} {bw : Nat} {D : Nat → Nat} (h : mByV σ v bw D) (hF : Fr P σ τ) (h1 : ∀ j, j < 36 → ¬ P 111 j) (h2 : ∀ j, j < 160 → ¬ P 110 j) : mByV τ v bw D := by
  rcases h with h | ⟨c, q, u, a1, a2, a3, a4, a5, a6⟩
  · exact Or.inl h
  · exact Or.inr ⟨c, q, u, a1, a2, a3.fr hF (fun j _ hj => h1 j (by omega)), a4, a5.fr hF (fun j _ hj => h2 j (by have := a4.2.1; omega)), a6⟩
set_option maxRecDepth 20000 in
theorem tX10_sumOf {E : zE} {d : Nat} {σ : zM} {p bw w n : Nat} {q : sPly} {u : Nat → Nat → Nat} {g D : Nat → Nat} {v : Int32} (hp : p < 9) (hP : mPy σ p q) (hq : PlOK q bw) (hB : mBx σ q.2.1 bw u) (hw : w < bw) (hu : ∀ p, p < 10 → u w p ≤ 9) (hD : mDrG σ n g) (hPt : PtsOK n g) (hV : mByV σ v bw D) : Ret E mX10_sumOf (d + 4) [zr E 102, .int (nI p), .int (nI w), .int v] σ (qI fun x τ => x = nI (gS q u n g D w) ∧ Fr (fun a j => a = 102 ∧ j = 16 ∨ a = 112) σ τ) := by
  obtain ⟨g1, g6, gg⟩ := hPt
  obtain ⟨q1, q2, q3, q4, q5⟩ := hq
  obtain ⟨p1, p2, p3, p4⟩ := hP
  have h8 := hB.1
  obtain ⟨lk, hlk⟩ : ∃ lk, lk = if q.1 = 3 then 1 else n := ⟨_, rfl⟩
  have hlk6 : lk ≤ n := by rw [hlk]; split <;> omega
  obtain ⟨bs, hbs⟩ : ∃ bs, bs = if q.1 = 2 ∧ w = q.2.2.2 then 9 else 0 := ⟨_, rfl⟩
  have hbs9 : bs ≤ 9 := by rw [hbs]; split <;> omega
  obtain ⟨f, hf⟩ : ∃ f, f = fun i => u w (if q.1 = 4 then 9 - g i else g i) := ⟨_, rfl⟩
  have hf9 : ∀ i, i < n → f i ≤ 9 := fun i hi => by
    rw [hf]
    refine hu _ ?_
    have := (gg i hi).1
    split <;> omega
  have hfs : ∀ k, k ≤ n → fsum f k ≤ 9 * k := fun k hk => fsum_bd k (fun i hi => hf9 i (by omega))
  have hDl : D w < 1024 := by
    rcases hV with ⟨h1, h2⟩ | ⟨c, q', u', a1, a2, a3, a4, a5, a6, a7⟩
    · rw [h2]; omega
    · rw [a7 w hw]; exact bset_lt (fun x hx => dList_lt (a6 w hw) hx)
  obtain ⟨X, hX⟩ : ∃ X, X = if q.1 = 5 then D w else 0 := ⟨_, rfl⟩
  have hXl : X < 1024 := by rw [hX]; split <;> omega
  obtain ⟨z, hz⟩ : ∃ z : Nat → Nat, z = fun i => if X.testBit (g i) then 1 else 0 := ⟨_, rfl⟩
  have hz1 : ∀ k, fsum z k ≤ 1 * k := fun k => fsum_bd k (fun i hi => by rw [hz]; show (if X.testBit (g i) then 1 else 0) ≤ 1; split <;> omega)
  have eS : gS q u n g D w = bs + fsum f lk + 4 * fsum z lk := by
    rw [hbs, hf, hlk, hz, hX]
    unfold gS
    congr 1
    by_cases hk5 : q.1 = 5
    · rw [if_pos hk5, if_neg (show ¬ q.1 = 3 by omega), if_pos hk5]
    · rw [if_neg hk5, if_neg hk5]
      rw [fsum_congr (g := fun _ => 0) _ (fun i _ => by rw [Nat.zero_testBit]; rfl), fsum_zero]
  refine Ret.of [some (zr E 102), some (.int (nI p)), some (.int (nI w)), some (.int v), none, none, none, none, none] (by decide +kernel) (Nat.le_of_ble_eq_true rfl) rfl ?_
  have loop : ∀ τ, Fr (fun a j => a = 102 ∧ j = 16 ∨ a = 112) σ τ → ∀ k, k ≤ lk → At E mX10_sumOf (d + 4) (qI fun x τ => x = nI (gS q u n g D w) ∧ Fr (fun a j => a = 102 ∧ j = 16 ∨ a = 112) σ τ) 73 [some (zr E 102), some (.int (nI p)), some (.int (nI w)), some (.int v), some (.int (nI q.1)), some (.int (nI (bs + fsum f k + 4 * fsum z k))), some (.int (nI lk)), some (.int (nI X)), some (.int (nI k))] [] τ := by
    intro τ hF
    have hPT : mPy τ p q := mPy.fr ⟨p1, p2, p3, p4⟩ hF (by intros; omega)
    have hBT : mBx τ q.2.1 bw u := hB.fr hF (by intros; omega)
    have hDT : mDrG τ n g := hD.fr hF (by omega) (by intros; omega)
    refine z_up (fun k hk ih => ?_)
    by_cases hkl : k = lk
    · subst hkl
      refine z_iload 75 dX10_sumOf_73 rfl rfl ?_
      refine z_iload 77 dX10_sumOf_75 rfl rfl ?_
      refine z_icmp_ge 154 80 dX10_sumOf_77 (by decide) rfl (fun h77 => ?_) (fun h77 => ?_)
      · (try rw [nI_leI (by omega) (by omega)] at h77)
        refine z_iload 156 dX10_sumOf_154 rfl rfl ?_
        refine z_ri dX10_sumOf_156 rfl ?_
        exact ⟨by rw [eS], hF⟩
      · (try rw [nI_leI (by omega) (by omega)] at h77)
        omega
    · have hkn : k < n := by omega
      have hgk := (gg k hkn).1
      have h9k := hfs k (by omega)
      have h1k := hz1 k
      have hfk : f k = u w (if q.1 = 4 then 9 - g k else g k) := by rw [hf]
      have hzk : z k = if X.testBit (g k) then 1 else 0 := by rw [hz]
      have hf9k := hf9 k hkn
      have s119 : ∀ y, y = f k → At E mX10_sumOf (d + 4) (qI fun x τ => x = nI (gS q u n g D w) ∧ Fr (fun a j => a = 102 ∧ j = 16 ∨ a = 112) σ τ) 119 [some (zr E 102), some (.int (nI p)), some (.int (nI w)), some (.int v), some (.int (nI q.1)), some (.int (nI (bs + fsum f k + 4 * fsum z k))), some (.int (nI lk)), some (.int (nI X)), some (.int (nI k))] [.int (nI y), .int (nI (bs + fsum f k + 4 * fsum z k))] τ := by
        intro y hy
        subst hy
        refine z_iadd 120 dX10_sumOf_119 rfl ?_
        rw [nI_add]
        refine zs_istore_5_9 122 rfl dX10_sumOf_120 rfl rfl ?_
        refine z_iload 124 dX10_sumOf_122 rfl rfl ?_
        refine z_iload 126 dX10_sumOf_124 rfl rfl ?_
        refine z_aload_n 127 dX10_sumOf_126 rfl rfl ?_
        refine gX10_44 130 rfl dX10_sumOf_127 rfl ?_
        refine z_iload 132 dX10_sumOf_130 rfl rfl ?_
        refine z_ialdn 133 dX10_sumOf_132 rfl (by first | assumption | rfl) (by omega) ?_
        rw [hDT.2 k hkn]
        refine z_ishr 134 dX10_sumOf_133 rfl ?_
        refine z_iconst 135 (v := nI 1) dX10_sumOf_134 rfl rfl ?_
        refine z_iand 136 dX10_sumOf_135 rfl ?_
        refine z_iconst 137 (v := nI 1) dX10_sumOf_136 rfl rfl ?_
        rw [zb_bit (by omega) (by omega)]
        refine z_icmp_ne 144 140 dX10_sumOf_137 (by decide) rfl (fun h137 => ?_) (fun h137 => ?_)
        · have hb : X.testBit (g k) = false := by
            cases hb : X.testBit (g k) with
            | false => rfl
            | true => rw [hb] at h137; exact absurd rfl h137
          rw [hb] at hzk
          refine z_iconst 145 (v := nI 0) dX10_sumOf_144 rfl rfl ?_
          refine z_iadd 146 dX10_sumOf_145 rfl ?_
          rw [nI_add]
          refine zs_istore_5_9 148 rfl dX10_sumOf_146 rfl rfl ?_
          refine zs_iinc_8_9_1 151 rfl dX10_sumOf_148 rfl rfl ?_
          rw [nI_add]
          refine z_goto 73 dX10_sumOf_151 rfl ?_
          have := ih (k + 1) (by omega) (by omega)
          rw [fsum, fsum, hzk] at this
          first
            | (rw [show bs + (fsum f k + f k) + 4 * (fsum z k + if (false : Bool) = true then 1 else 0) = bs + fsum f k + 4 * fsum z k + f k + 0 by simp; omega] at this; exact this)
            | (rw [show bs + (fsum f k + f k) + 4 * (fsum z k + if (true : Bool) = true then 1 else 0) = bs + fsum f k + 4 * fsum z k + f k + 4 by simp; omega] at this; exact this)
        · have hb : X.testBit (g k) = true := by
            cases hb : X.testBit (g k) with
            | true => rfl
            | false => rw [hb] at h137; exact absurd h137 (by decide)
          rw [hb] at hzk
          refine z_iconst 141 (v := nI 4) dX10_sumOf_140 rfl rfl ?_
          refine z_goto 145 dX10_sumOf_141 rfl ?_
          refine z_iadd 146 dX10_sumOf_145 rfl ?_
          rw [nI_add]
          refine zs_istore_5_9 148 rfl dX10_sumOf_146 rfl rfl ?_
          refine zs_iinc_8_9_1 151 rfl dX10_sumOf_148 rfl rfl ?_
          rw [nI_add]
          refine z_goto 73 dX10_sumOf_151 rfl ?_
          have := ih (k + 1) (by omega) (by omega)
          rw [fsum, fsum, hzk] at this
          first
            | (rw [show bs + (fsum f k + f k) + 4 * (fsum z k + if (false : Bool) = true then 1 else 0) = bs + fsum f k + 4 * fsum z k + f k + 0 by simp; omega] at this; exact this)
            | (rw [show bs + (fsum f k + f k) + 4 * (fsum z k + if (true : Bool) = true then 1 else 0) = bs + fsum f k + 4 * fsum z k + f k + 4 by simp; omega] at this; exact this)
      refine z_iload 75 dX10_sumOf_73 rfl rfl ?_
      refine z_iload 77 dX10_sumOf_75 rfl rfl ?_
      refine z_icmp_ge 154 80 dX10_sumOf_77 (by decide) rfl (fun h77 => ?_) (fun h77 => ?_)
      · (try rw [nI_leI (by omega) (by omega)] at h77)
        omega
      · (try rw [nI_leI (by omega) (by omega)] at h77)
        refine z_iload 82 dX10_sumOf_80 rfl rfl ?_
        refine z_aload_n 83 dX10_sumOf_82 rfl rfl ?_
        refine z_aload_n 84 dX10_sumOf_83 rfl rfl ?_
        refine z_iload_n 85 dX10_sumOf_84 rfl rfl ?_
        refine z_iconst 86 (v := nI 1) dX10_sumOf_85 rfl rfl ?_
        refine z_cVI2 89 (tX10_tell (by omega) (by omega)) kX10_tell dX10_sumOf_86 rfl lX10_165 (by first | assumption | rfl) (Nat.le_of_ble_eq_true rfl) ?_
        rintro _ _ ⟨e1, e2⟩
        replace e1 := e1.symm
        replace e2 := e2.symm
        subst e1
        subst e2
        rw [hPT.2.1]
        refine z_iload_n 90 dX10_sumOf_89 rfl rfl ?_
        refine z_iload 92 dX10_sumOf_90 rfl rfl ?_
        refine z_iconst 93 (v := nI 4) dX10_sumOf_92 rfl rfl ?_
        refine z_icmp_ne 109 96 dX10_sumOf_93 (by decide) rfl (fun h93 => ?_) (fun h93 => ?_)
        · (try rw [nI_eq (by omega) (by omega)] at h93)
          refine z_aload_n 110 dX10_sumOf_109 rfl rfl ?_
          refine gX10_44 113 rfl dX10_sumOf_110 rfl ?_
          refine z_iload 115 dX10_sumOf_113 rfl rfl ?_
          refine z_ialdn 116 dX10_sumOf_115 rfl (by first | assumption | rfl) (by omega) ?_
          try rw [hDT.2 k hkn]
          refine z_cVI3 119 (tX10_use (by omega) (by omega) (by omega)) kX10_use dX10_sumOf_116 rfl lX10_154 (by first | assumption | rfl) (Nat.le_of_ble_eq_true rfl) ?_
          rintro _ _ ⟨e1, e2⟩
          replace e1 := e1.symm
          replace e2 := e2.symm
          subst e1
          subst e2
          rw [hBT.2 w hw _ (by omega)]
          exact s119 _ (by rw [hfk]; first | rw [if_pos (by omega)] | rw [if_neg (by omega)])
        · (try rw [nI_eq (by omega) (by omega)] at h93)
          refine z_bipush 98 (v := nI 9) dX10_sumOf_96 rfl rfl ?_
          refine z_aload_n 99 dX10_sumOf_98 rfl rfl ?_
          refine gX10_44 102 rfl dX10_sumOf_99 rfl ?_
          refine z_iload 104 dX10_sumOf_102 rfl rfl ?_
          refine z_ialdn 105 dX10_sumOf_104 rfl (by first | assumption | rfl) (by omega) ?_
          rw [hDT.2 k hkn]
          refine z_isub 106 dX10_sumOf_105 rfl ?_
          rw [nI_sub (show g k ≤ 9 by omega)]
          refine z_goto 116 dX10_sumOf_106 rfl ?_
          try rw [hDT.2 k hkn]
          refine z_cVI3 119 (tX10_use (by omega) (by omega) (by omega)) kX10_use dX10_sumOf_116 rfl lX10_154 (by first | assumption | rfl) (Nat.le_of_ble_eq_true rfl) ?_
          rintro _ _ ⟨e1, e2⟩
          replace e1 := e1.symm
          replace e2 := e2.symm
          subst e1
          subst e2
          rw [hBT.2 w hw _ (by omega)]
          exact s119 _ (by rw [hfk]; first | rw [if_pos (by omega)] | rw [if_neg (by omega)])
  have s46 : At E mX10_sumOf (d + 4) (qI fun x τ => x = nI (gS q u n g D w) ∧ Fr (fun a j => a = 102 ∧ j = 16 ∨ a = 112) σ τ) 46 [some (zr E 102), some (.int (nI p)), some (.int (nI w)), some (.int v), some (.int (nI q.1)), some (.int (nI bs)), none, none, none] [.int (nI lk)] σ := by
    by_cases hk5 : q.1 = 5
    · rw [if_pos hk5] at hX
      rcases hV with ⟨h1, h2⟩ | ⟨c, q', u', rfl, a2, a3, a4, a5, a6, a7⟩
      · refine zs_istore_6_9 48 rfl dX10_sumOf_46 rfl rfl ?_
        refine z_iload 50 dX10_sumOf_48 rfl rfl ?_
        refine z_iconst 51 (v := nI 5) dX10_sumOf_50 rfl rfl ?_
        refine z_icmp_ne 67 54 dX10_sumOf_51 (by decide) rfl (fun h51 => ?_) (fun h51 => ?_)
        · (try rw [nI_eq (by omega) (by omega)] at h51)
          omega
        · (try rw [nI_eq (by omega) (by omega)] at h51)
          refine z_iload_n 55 dX10_sumOf_54 rfl rfl ?_
          refine z_if_lt 67 58 dX10_sumOf_55 (by decide) rfl (fun h55 => ?_) (fun h55 => ?_)
          · refine z_iconst 68 (v := nI 0) dX10_sumOf_67 rfl rfl ?_
            refine zs_istore_7_9 70 rfl dX10_sumOf_68 rfl rfl ?_
            refine z_iconst 71 (v := nI 0) dX10_sumOf_70 rfl rfl ?_
            refine zs_istore_8_9 73 rfl dX10_sumOf_71 rfl rfl ?_
            have := loop σ Fr.rf 0 (Nat.zero_le _)
            rw [show X = 0 by rw [hX, h2]] at this
            exact this
          · exact absurd h1 h55
      · obtain ⟨r1, r2, r3, r4, r5⟩ := a4
        refine zs_istore_6_9 48 rfl dX10_sumOf_46 rfl rfl ?_
        refine z_iload 50 dX10_sumOf_48 rfl rfl ?_
        refine z_iconst 51 (v := nI 5) dX10_sumOf_50 rfl rfl ?_
        refine z_icmp_ne 67 54 dX10_sumOf_51 (by decide) rfl (fun h51 => ?_) (fun h51 => ?_)
        · (try rw [nI_eq (by omega) (by omega)] at h51)
          omega
        · (try rw [nI_eq (by omega) (by omega)] at h51)
          refine z_iload_n 55 dX10_sumOf_54 rfl rfl ?_
          refine z_if_lt 67 58 dX10_sumOf_55 (by decide) rfl (fun h55 => ?_) (fun h55 => ?_)
          · exact absurd h55 (nI_pos (by omega))
          · refine z_aload_n 59 dX10_sumOf_58 rfl rfl ?_
            refine z_iload_n 60 dX10_sumOf_59 rfl rfl ?_
            refine z_iload_n 61 dX10_sumOf_60 rfl rfl ?_
            refine z_cVI2 64 (tX10_drawingSet a2 a3 r1 r2 r3 r4 a5 hw (a6 w hw)) kX10_drawingSet dX10_sumOf_61 rfl lX10_181 (by first | assumption | rfl) (Nat.le_of_ble_eq_true rfl) ?_
            rintro _ τ1 ⟨e1, hF1, -⟩
            subst e1
            refine z_goto 68 dX10_sumOf_64 rfl ?_
            refine zs_istore_7_9 70 rfl dX10_sumOf_68 rfl rfl ?_
            refine z_iconst 71 (v := nI 0) dX10_sumOf_70 rfl rfl ?_
            refine zs_istore_8_9 73 rfl dX10_sumOf_71 rfl rfl ?_
            have := loop τ1 hF1 0 (Nat.zero_le _)
            rw [show X = bset (dList (u' w) (dMost q')) by rw [hX, a7 w hw]] at this
            exact this
    · rw [if_neg hk5] at hX
      refine zs_istore_6_9 48 rfl dX10_sumOf_46 rfl rfl ?_
      refine z_iload 50 dX10_sumOf_48 rfl rfl ?_
      refine z_iconst 51 (v := nI 5) dX10_sumOf_50 rfl rfl ?_
      refine z_icmp_ne 67 54 dX10_sumOf_51 (by decide) rfl (fun h51 => ?_) (fun h51 => ?_)
      · (try rw [nI_eq (by omega) (by omega)] at h51)
        refine z_iconst 68 (v := nI 0) dX10_sumOf_67 rfl rfl ?_
        refine zs_istore_7_9 70 rfl dX10_sumOf_68 rfl rfl ?_
        refine z_iconst 71 (v := nI 0) dX10_sumOf_70 rfl rfl ?_
        refine zs_istore_8_9 73 rfl dX10_sumOf_71 rfl rfl ?_
        have := loop σ Fr.rf 0 (Nat.zero_le _)
        rw [hX] at this
        exact this
      · (try rw [nI_eq (by omega) (by omega)] at h51)
        omega
  have s30 : At E mX10_sumOf (d + 4) (qI fun x τ => x = nI (gS q u n g D w) ∧ Fr (fun a j => a = 102 ∧ j = 16 ∨ a = 112) σ τ) 30 [some (zr E 102), some (.int (nI p)), some (.int (nI w)), some (.int v), some (.int (nI q.1)), none, none, none, none] [.int (nI bs)] σ := by
    refine zs_istore_5_9 32 rfl dX10_sumOf_30 rfl rfl ?_
    refine z_iload 34 dX10_sumOf_32 rfl rfl ?_
    refine z_iconst 35 (v := nI 3) dX10_sumOf_34 rfl rfl ?_
    refine z_icmp_ne 42 38 dX10_sumOf_35 (by decide) rfl (fun h35 => ?_) (fun h35 => ?_)
    · (try rw [nI_eq (by omega) (by omega)] at h35)
      refine z_aload_n 43 dX10_sumOf_42 rfl rfl ?_
      refine gX10_178 46 rfl dX10_sumOf_43 rfl ?_
      first | (rw [hD.1]; rw [show lk = n by rw [hlk, if_neg (by omega)]] at s46; exact s46) | (rw [show lk = 1 by rw [hlk, if_pos (by omega)]] at s46; exact s46)
    · (try rw [nI_eq (by omega) (by omega)] at h35)
      refine z_iconst 39 (v := nI 1) dX10_sumOf_38 rfl rfl ?_
      refine z_goto 46 dX10_sumOf_39 rfl ?_
      first | (rw [hD.1]; rw [show lk = n by rw [hlk, if_neg (by omega)]] at s46; exact s46) | (rw [show lk = 1 by rw [hlk, if_pos (by omega)]] at s46; exact s46)
  refine z_aload_n 1 dX10_sumOf_0 rfl rfl ?_
  refine z_iload_n 2 dX10_sumOf_1 rfl rfl ?_
  refine z_iconst 3 (v := nI 0) dX10_sumOf_2 rfl rfl ?_
  refine z_cVI2 6 (tX10_tell (by omega) (by omega)) kX10_tell dX10_sumOf_3 rfl lX10_165 (by first | assumption | rfl) (Nat.le_of_ble_eq_true rfl) ?_
  rintro _ _ ⟨e1, e2⟩
  replace e1 := e1.symm
  replace e2 := e2.symm
  subst e1
  subst e2
  rw [p1]
  refine zs_istore_4_9 8 rfl dX10_sumOf_6 rfl rfl ?_
  refine z_iload 10 dX10_sumOf_8 rfl rfl ?_
  refine z_iconst 11 (v := nI 2) dX10_sumOf_10 rfl rfl ?_
  refine z_icmp_ne 29 14 dX10_sumOf_11 (by decide) rfl (fun h11 => ?_) (fun h11 => ?_)
  · (try rw [nI_eq (by omega) (by omega)] at h11)
    refine z_iconst 30 (v := nI 0) dX10_sumOf_29 rfl rfl ?_
    first | (rw [show bs = 9 by rw [hbs, if_pos (by omega)]] at s30; exact s30) | (rw [show bs = 0 by rw [hbs, if_neg (by omega)]] at s30; exact s30)
  · (try rw [nI_eq (by omega) (by omega)] at h11)
    refine z_iload_n 15 dX10_sumOf_14 rfl rfl ?_
    refine z_aload_n 16 dX10_sumOf_15 rfl rfl ?_
    refine z_iload_n 17 dX10_sumOf_16 rfl rfl ?_
    refine z_iconst 18 (v := nI 3) dX10_sumOf_17 rfl rfl ?_
    refine z_cVI2 21 (tX10_tell (by omega) (by omega)) kX10_tell dX10_sumOf_18 rfl lX10_165 (by first | assumption | rfl) (Nat.le_of_ble_eq_true rfl) ?_
    rintro _ _ ⟨e1, e2⟩
    replace e1 := e1.symm
    replace e2 := e2.symm
    subst e1
    subst e2
    rw [p4]
    refine z_icmp_ne 29 24 dX10_sumOf_21 (by decide) rfl (fun h21 => ?_) (fun h21 => ?_)
    · (try rw [nI_eq (by omega) (by omega)] at h21)
      refine z_iconst 30 (v := nI 0) dX10_sumOf_29 rfl rfl ?_
      first | (rw [show bs = 9 by rw [hbs, if_pos (by omega)]] at s30; exact s30) | (rw [show bs = 0 by rw [hbs, if_neg (by omega)]] at s30; exact s30)
    · (try rw [nI_eq (by omega) (by omega)] at h21)
      refine z_bipush 26 (v := nI 9) dX10_sumOf_24 rfl rfl ?_
      refine z_goto 30 dX10_sumOf_26 rfl ?_
      first | (rw [show bs = 9 by rw [hbs, if_pos (by omega)]] at s30; exact s30) | (rw [show bs = 0 by rw [hbs, if_neg (by omega)]] at s30; exact s30)
/-- shares in cells -/
def mShr (σ : zM) (bw fav : Nat) (s : Nat → Nat) : Prop := ∀ w, w < bw → gi σ 115 w = nI (hSh s bw fav w)
set_option maxRecDepth 20000 in
theorem tX10_words0 {E : zE} {d : Nat} {σ : zM} {n : Nat} (h : gi σ 109 0 = nI n) : Ret E mX10_words d [zr E 102] σ (qI fun x τ => x = nI n ∧ τ = σ) := by
  refine Ret.of [some (zr E 102)] (by decide +kernel) (Nat.le_of_ble_eq_true rfl) rfl ?_
  refine z_aload_n 1 dX10_words_0 rfl rfl ?_
  refine gX10_32 4 rfl dX10_words_1 rfl ?_
  refine z_iconst 5 (v := nI 0) dX10_words_4 rfl rfl ?_
  refine z_ialdn 6 dX10_words_5 rfl (by first | assumption | rfl) (by omega) ?_
  refine z_ri dX10_words_6 rfl ?_
  exact ⟨h, rfl⟩
set_option maxRecDepth 20000 in
theorem tX10_setShares {E : zE} {d : Nat} {σ : zM} {p bw n : Nat} {q : sPly} {u : Nat → Nat → Nat} {g D : Nat → Nat} {v : Int32} (hp : p < 9) (hP : mPy σ p q) (hq : PlOK q bw) (hW0 : gi σ 109 0 = nI bw) (hB : mBx σ q.2.1 bw u) (hu : ∀ w, w < bw → ∀ p, p < 10 → u w p ≤ 9) (hD : mDrG σ n g) (hPt : PtsOK n g) (hV : mByV σ v bw D) : Ret E mX10_setShares (d + 5) [zr E 102, .int (nI p), .int v] σ (qV fun τ => Fr (fun a j => a = 102 ∧ j = 16 ∨ a = 112 ∨ a = 114 ∨ a = 115) σ τ ∧ mShr τ bw q.2.2.2 (gS q u n g D)) := by
  have h8 := hB.1
  have q2 := hq.2.1
  have q5 := hq.2.2.2.2
  obtain ⟨s, hs⟩ : ∃ s, s = gS q u n g D := ⟨_, rfl⟩
  have hsl : ∀ w, w < bw → s w ≤ 87 := fun w hw => by rw [hs]; exact gS_le hPt.1 hPt.2.1 (fun i hi => (hPt.2.2 i hi).1) (hu w hw)
  have hsm : ∀ k, k ≤ bw → fsum s k ≤ 87 * k := fun k hk => fsum_bd k (fun i hi => hsl i (by omega))
  have hall := hsm bw (Nat.le_refl _)
  have hG8 := hG_lt (s := s) q5
  have h24 := hSb_sum s bw
  have hpre : ∀ k, k ≤ bw → fsum (hSb s bw) k ≤ 24 := by
    intro k hk
    have : ∀ m, k ≤ m → fsum (hSb s bw) k ≤ fsum (hSb s bw) m := by
      intro m
      induction m with
      | zero => intro h; rw [show k = 0 by omega]; exact Nat.le_refl _
      | succ m ih =>
        intro h
        by_cases hkm : k = m + 1
        · rw [hkm]; exact Nat.le_refl _
        · have := ih (by omega); rw [fsum]; omega
    have := this bw hk
    omega
  rw [← hs]
  refine Ret.of [some (zr E 102), some (.int (nI p)), some (.int v), none, none, none, none] (by decide +kernel) (Nat.le_of_ble_eq_true rfl) rfl ?_
  have s154 : ∀ τ, Fr (fun a j => a = 102 ∧ j = 16 ∨ a = 112 ∨ a = 114 ∨ a = 115) σ τ → (∀ w, w < bw → gi τ 115 w = nI (hSb s bw w)) → ∀ y4 y6 : Option Value, At E mX10_setShares (d + 5) (qV fun τ => Fr (fun a j => a = 102 ∧ j = 16 ∨ a = 112 ∨ a = 114 ∨ a = 115) σ τ ∧ mShr τ bw q.2.2.2 s) 154 [some (zr E 102), some (.int (nI p)), some (.int v), some (.int (nI (fsum s bw))), y4, some (.int (nI (24 - fsum (hSb s bw) bw))), y6] [.int (nI (hG s bw q.2.2.2)), zr E 115] τ := by
    intro τ hF hv y4 y6
    refine z_dup2 155 dX10_setShares_154 rfl rfl rfl ?_
    refine z_ialdn 156 dX10_setShares_155 rfl (by first | assumption | rfl) (by omega) ?_
    rw [hv _ hG8]
    refine z_iload 158 dX10_setShares_156 rfl rfl ?_
    refine z_iadd 159 dX10_setShares_158 rfl ?_
    rw [nI_add]
    refine z_iastn 160 dX10_setShares_159 rfl (by first | assumption | rfl) (by omega) ?_
    refine z_rv dX10_setShares_160 rfl ?_
    refine ⟨hF.si _ (by omega), fun w hw' => ?_⟩
    rw [gi_si]
    unfold hSh
    by_cases hwg : w = hG s bw q.2.2.2
    · rw [if_pos ⟨rfl, hwg⟩, if_pos hwg, hwg]
    · rw [if_neg (fun z => hwg z.2), if_neg hwg, hv w hw']; rfl
  have loop2 : ∀ i, i ≤ bw → ∀ τ, Fr (fun a j => a = 102 ∧ j = 16 ∨ a = 112 ∨ a = 114 ∨ a = 115) σ τ → (∀ w, w < bw → gi τ 114 w = nI (s w)) → (∀ w, w < i → gi τ 115 w = nI (hSb s bw w)) → At E mX10_setShares (d + 5) (qV fun τ => Fr (fun a j => a = 102 ∧ j = 16 ∨ a = 112 ∨ a = 114 ∨ a = 115) σ τ ∧ mShr τ bw q.2.2.2 s) 81 [some (zr E 102), some (.int (nI p)), some (.int v), some (.int (nI (fsum s bw))), some (.int (nI (amx s bw))), some (.int (nI (24 - fsum (hSb s bw) i))), some (.int (nI i))] [] τ := by
    refine z_up (fun i hi ih τ hF hv1 hv => ?_)
    have hWT : gi τ 109 0 = nI bw := (hF.gi (by omega)).trans hW0
    have hPT : mPy τ p q := hP.fr hF (by intros; omega)
    by_cases hib : i = bw
    · subst hib
      refine z_iload 83 dX10_setShares_81 rfl rfl ?_
      refine z_aload_n 84 dX10_setShares_83 rfl rfl ?_
      refine z_cVI0 87 (tX10_words0 hWT) kX10_words dX10_setShares_84 rfl lX10_144 (by first | assumption | rfl) (Nat.le_of_ble_eq_true rfl) ?_
      rintro _ _ ⟨e1, e2⟩
      replace e1 := e1.symm
      replace e2 := e2.symm
      subst e1
      subst e2
      refine z_icmp_ge 135 90 dX10_setShares_87 (by decide) rfl (fun h87 => ?_) (fun h87 => ?_)
      · (try rw [nI_leI (by omega) (by omega)] at h87)
        refine z_aload_n 136 dX10_setShares_135 rfl rfl ?_
        refine gX10_50 139 rfl dX10_setShares_136 rfl ?_
        refine z_iload_n 140 dX10_setShares_139 rfl rfl ?_
        refine z_if_ne 152 143 dX10_setShares_140 (by decide) rfl (fun h140 => ?_) (fun h140 => ?_)
        · (try rw [nI_eq0 (by omega)] at h140)
          have hgg : hG s i q.2.2.2 = amx s i := if_neg h140
          refine z_iload 154 dX10_setShares_152 rfl rfl ?_
          have := s154 τ hF hv (some (.int (nI (amx s i)))) (some (.int (nI i)))
          rw [hgg] at this
          exact this
        · (try rw [nI_eq0 (by omega)] at h140)
          have hgg : hG s i q.2.2.2 = q.2.2.2 := if_pos h140
          refine z_aload_n 144 dX10_setShares_143 rfl rfl ?_
          refine z_iload_n 145 dX10_setShares_144 rfl rfl ?_
          refine z_iconst 146 (v := nI 3) dX10_setShares_145 rfl rfl ?_
          refine z_cVI2 149 (tX10_tell (by omega) (by omega)) kX10_tell dX10_setShares_146 rfl lX10_165 (by first | assumption | rfl) (Nat.le_of_ble_eq_true rfl) ?_
          rintro _ _ ⟨e1, e2⟩
          replace e1 := e1.symm
          replace e2 := e2.symm
          subst e1
          subst e2
          rw [hPT.2.2.2]
          refine z_goto 154 dX10_setShares_149 rfl ?_
          have := s154 τ hF hv (some (.int (nI (amx s i)))) (some (.int (nI i)))
          rw [hgg] at this
          exact this
      · (try rw [nI_leI (by omega) (by omega)] at h87)
        omega
    · have hib : i < bw := by omega
      have hsl1 := hsl i hib
      have hp1 := hpre (i + 1) (by omega)
      rw [fsum] at hp1
      have s116 : ∀ x, x = hSb s bw i → At E mX10_setShares (d + 5) (qV fun τ => Fr (fun a j => a = 102 ∧ j = 16 ∨ a = 112 ∨ a = 114 ∨ a = 115) σ τ ∧ mShr τ bw q.2.2.2 s) 116 [some (zr E 102), some (.int (nI p)), some (.int v), some (.int (nI (fsum s bw))), some (.int (nI (amx s bw))), some (.int (nI (24 - fsum (hSb s bw) i))), some (.int (nI i))] [.int (nI x), .int (nI i), zr E 115] τ := by
        intro x hx
        subst hx
        refine z_iastn 117 dX10_setShares_116 rfl (by first | assumption | rfl) (by omega) ?_
        refine z_iload 119 dX10_setShares_117 rfl rfl ?_
        refine z_aload_n 120 dX10_setShares_119 rfl rfl ?_
        refine gX10_50 123 rfl dX10_setShares_120 rfl ?_
        refine z_iload 125 dX10_setShares_123 rfl rfl ?_
        refine z_ialdn 126 dX10_setShares_125 rfl (by first | assumption | rfl) (by omega) ?_
        rw [gi_s1]
        refine z_isub 127 dX10_setShares_126 rfl ?_
        rw [nI_sub (by omega)]
        refine zs_istore_5_7 129 rfl dX10_setShares_127 rfl rfl ?_
        refine zs_iinc_6_7_1 132 rfl dX10_setShares_129 rfl rfl ?_
        rw [nI_add]
        refine z_goto 81 dX10_setShares_132 rfl ?_
        have := ih (i + 1) (by omega) (by omega) _ (hF.si (nI (hSb s bw i)) (a := 115) (j := i) (by omega)) (fun w hw' => (gi_s2 _ _ (by omega)).trans (hv1 w hw')) (fun w hw' => ?_)
        · rw [fsum, show 24 - (fsum (hSb s bw) i + hSb s bw i) = 24 - fsum (hSb s bw) i - hSb s bw i by omega] at this
          exact this
        · rw [gi_si]
          by_cases hwi : w = i
          · rw [if_pos ⟨rfl, hwi⟩, hwi]
          · rw [if_neg (fun z => hwi z.2)]; exact hv w (by omega)
      refine z_iload 83 dX10_setShares_81 rfl rfl ?_
      refine z_aload_n 84 dX10_setShares_83 rfl rfl ?_
      refine z_cVI0 87 (tX10_words0 hWT) kX10_words dX10_setShares_84 rfl lX10_144 (by first | assumption | rfl) (Nat.le_of_ble_eq_true rfl) ?_
      rintro _ _ ⟨e1, e2⟩
      replace e1 := e1.symm
      replace e2 := e2.symm
      subst e1
      subst e2
      refine z_icmp_ge 135 90 dX10_setShares_87 (by decide) rfl (fun h87 => ?_) (fun h87 => ?_)
      · (try rw [nI_leI (by omega) (by omega)] at h87)
        omega
      · (try rw [nI_leI (by omega) (by omega)] at h87)
        refine z_aload_n 91 dX10_setShares_90 rfl rfl ?_
        refine gX10_50 94 rfl dX10_setShares_91 rfl ?_
        refine z_iload 96 dX10_setShares_94 rfl rfl ?_
        refine z_iload_n 97 dX10_setShares_96 rfl rfl ?_
        refine z_if_ne 104 100 dX10_setShares_97 (by decide) rfl (fun h97 => ?_) (fun h97 => ?_)
        · (try rw [nI_eq0 (by omega)] at h97)
          refine z_bipush 106 (v := nI 24) dX10_setShares_104 rfl rfl ?_
          refine z_aload_n 107 dX10_setShares_106 rfl rfl ?_
          refine gX10_47 110 rfl dX10_setShares_107 rfl ?_
          refine z_iload 112 dX10_setShares_110 rfl rfl ?_
          refine z_ialdn 113 dX10_setShares_112 rfl (by first | assumption | rfl) (by omega) ?_
          rw [hv1 i hib]
          refine z_imul 114 dX10_setShares_113 rfl ?_
          rw [nI_mul]
          refine z_iload_n 115 dX10_setShares_114 rfl rfl ?_
          refine z_idiv 116 dX10_setShares_115 rfl (fun z => h97 ((nI_eq0 (by omega)).mp z)) ?_
          first | (refine s116 0 ?_; exact (if_pos h97).symm) | (rw [pk_div (by omega) (by omega) (by omega)]; refine s116 _ ?_; exact (if_neg h97).symm)
        · (try rw [nI_eq0 (by omega)] at h97)
          refine z_iconst 101 (v := nI 0) dX10_setShares_100 rfl rfl ?_
          refine z_goto 116 dX10_setShares_101 rfl ?_
          first | (refine s116 0 ?_; exact (if_pos h97).symm) | (rw [pk_div (by omega) (by omega) (by omega)]; refine s116 _ ?_; exact (if_neg h97).symm)
  have loop1 : ∀ i, i ≤ bw → ∀ τ, Fr (fun a j => a = 102 ∧ j = 16 ∨ a = 112 ∨ a = 114 ∨ a = 115) σ τ → (∀ w, w < i → gi τ 114 w = nI (s w)) → At E mX10_setShares (d + 5) (qV fun τ => Fr (fun a j => a = 102 ∧ j = 16 ∨ a = 112 ∨ a = 114 ∨ a = 115) σ τ ∧ mShr τ bw q.2.2.2 s) 8 [some (zr E 102), some (.int (nI p)), some (.int v), some (.int (nI (fsum s i))), some (.int (nI (amx s i))), some (.int (nI i)), none] [] τ := by
    refine z_up (fun i hi ih τ hF hv => ?_)
    have hWT : gi τ 109 0 = nI bw := (hF.gi (by omega)).trans hW0
    have hPT : mPy τ p q := hP.fr hF (by intros; omega)
    have hBT : mBx τ q.2.1 bw u := hB.fr hF (by intros; omega)
    have hDT : mDrG τ n g := hD.fr hF (by omega) (by intros; omega)
    have hVT : mByV τ v bw D := hV.fr hF (by intros; omega) (by intros; omega)
    by_cases hib : i = bw
    · subst hib
      refine z_iload 10 dX10_setShares_8 rfl rfl ?_
      refine z_aload_n 11 dX10_setShares_10 rfl rfl ?_
      refine z_cVI0 14 (tX10_words0 hWT) kX10_words dX10_setShares_11 rfl lX10_144 (by first | assumption | rfl) (Nat.le_of_ble_eq_true rfl) ?_
      rintro _ _ ⟨e1, e2⟩
      replace e1 := e1.symm
      replace e2 := e2.symm
      subst e1
      subst e2
      refine z_icmp_ge 74 17 dX10_setShares_14 (by decide) rfl (fun h14 => ?_) (fun h14 => ?_)
      · (try rw [nI_leI (by omega) (by omega)] at h14)
        refine z_bipush 76 (v := nI 24) dX10_setShares_74 rfl rfl ?_
        refine zs_istore_5_7 78 rfl dX10_setShares_76 rfl rfl ?_
        refine z_iconst 79 (v := nI 0) dX10_setShares_78 rfl rfl ?_
        refine zs_istore_6_7 81 rfl dX10_setShares_79 rfl rfl ?_
        exact loop2 0 (Nat.zero_le _) τ hF hv (fun w hw => absurd hw (Nat.not_lt_zero w))
      · (try rw [nI_leI (by omega) (by omega)] at h14)
        omega
    · have hib : i < bw := by omega
      have hsi : gS q u n g D i = s i := by rw [hs]
      have hsl1 := hsl i hib
      have ham : amx s i ≤ i := by
        rcases Nat.eq_zero_or_pos i with h0 | h0
        · rw [h0]; exact Nat.le_refl _
        · exact Nat.le_of_lt (amx_spec s i h0).1
      have hsl2 := hsl (amx s i) (by omega)
      refine z_iload 10 dX10_setShares_8 rfl rfl ?_
      refine z_aload_n 11 dX10_setShares_10 rfl rfl ?_
      refine z_cVI0 14 (tX10_words0 hWT) kX10_words dX10_setShares_11 rfl lX10_144 (by first | assumption | rfl) (Nat.le_of_ble_eq_true rfl) ?_
      rintro _ _ ⟨e1, e2⟩
      replace e1 := e1.symm
      replace e2 := e2.symm
      subst e1
      subst e2
      refine z_icmp_ge 74 17 dX10_setShares_14 (by decide) rfl (fun h14 => ?_) (fun h14 => ?_)
      · (try rw [nI_leI (by omega) (by omega)] at h14)
        omega
      · (try rw [nI_leI (by omega) (by omega)] at h14)
        refine z_aload_n 18 dX10_setShares_17 rfl rfl ?_
        refine gX10_47 21 rfl dX10_setShares_18 rfl ?_
        refine z_iload 23 dX10_setShares_21 rfl rfl ?_
        refine z_aload_n 24 dX10_setShares_23 rfl rfl ?_
        refine z_iload_n 25 dX10_setShares_24 rfl rfl ?_
        refine z_iload 27 dX10_setShares_25 rfl rfl ?_
        refine z_iload_n 28 dX10_setShares_27 rfl rfl ?_
        refine z_cVI3 31 (tX10_sumOf hp hPT hq hBT hib (hu i hib) hDT hPt hVT) kX10_sumOf dX10_setShares_28 rfl lX10_184 (by first | assumption | rfl) (Nat.le_of_ble_eq_true rfl) ?_
        rintro _ τ1 ⟨e1, hF1⟩
        subst e1
        rw [hsi]
        have hg1 : ∀ k, k ≤ i → gi (si τ1 114 i (nI (s i))) 114 k = nI (s k) := fun k hk => by
          rw [gi_si]
          by_cases hki : k = i
          · rw [if_pos ⟨rfl, hki⟩, hki]
          · rw [if_neg (fun z => hki z.2), hF1.gi (by omega)]; exact hv k (by omega)
        refine z_iastn 32 dX10_setShares_31 rfl (by first | assumption | rfl) (by omega) ?_
        refine z_iload_n 33 dX10_setShares_32 rfl rfl ?_
        refine z_aload_n 34 dX10_setShares_33 rfl rfl ?_
        refine gX10_47 37 rfl dX10_setShares_34 rfl ?_
        refine z_iload 39 dX10_setShares_37 rfl rfl ?_
        refine z_ialdn 40 dX10_setShares_39 rfl (by first | assumption | rfl) (by omega) ?_
        rw [hg1 i (Nat.le_refl _)]
        refine z_iadd 41 dX10_setShares_40 rfl ?_
        rw [nI_add]
        refine zs_istore_n_3_7 42 rfl dX10_setShares_41 rfl rfl ?_
        refine z_aload_n 43 dX10_setShares_42 rfl rfl ?_
        refine gX10_47 46 rfl dX10_setShares_43 rfl ?_
        refine z_iload 48 dX10_setShares_46 rfl rfl ?_
        refine z_ialdn 49 dX10_setShares_48 rfl (by first | assumption | rfl) (by omega) ?_
        refine z_aload_n 50 dX10_setShares_49 rfl rfl ?_
        refine gX10_47 53 rfl dX10_setShares_50 rfl ?_
        refine z_iload 55 dX10_setShares_53 rfl rfl ?_
        refine z_ialdn 56 dX10_setShares_55 rfl (by first | assumption | rfl) (by omega) ?_
        rw [hg1 i (Nat.le_refl _), hg1 _ ham]
        refine z_icmp_le 64 59 dX10_setShares_56 (by decide) rfl (fun h56 => ?_) (fun h56 => ?_)
        · (try rw [nI_leI (by omega) (by omega)] at h56)
          have hax : amx s (i + 1) = amx s i := by rw [amx, if_neg (by omega)]
          refine z_iload 66 dX10_setShares_64 rfl rfl ?_
          refine zs_istore_4_7 68 rfl dX10_setShares_66 rfl rfl ?_
          refine zs_iinc_5_7_1 71 rfl dX10_setShares_68 rfl rfl ?_
          rw [nI_add]
          refine z_goto 8 dX10_setShares_71 rfl ?_
          have := ih (i + 1) (by omega) (by omega) _ ((hF.tr hF1 (fun _ _ h => h) (by intros; omega)).si (nI (s i)) (a := 114) (j := i) (by omega)) (fun w hw' => hg1 w (by omega))
          rw [hax] at this
          exact this
        · (try rw [nI_leI (by omega) (by omega)] at h56)
          have hax : amx s (i + 1) = i := by rw [amx, if_pos (by omega)]
          refine z_iload 61 dX10_setShares_59 rfl rfl ?_
          refine z_goto 66 dX10_setShares_61 rfl ?_
          refine zs_istore_4_7 68 rfl dX10_setShares_66 rfl rfl ?_
          refine zs_iinc_5_7_1 71 rfl dX10_setShares_68 rfl rfl ?_
          rw [nI_add]
          refine z_goto 8 dX10_setShares_71 rfl ?_
          have := ih (i + 1) (by omega) (by omega) _ ((hF.tr hF1 (fun _ _ h => h) (by intros; omega)).si (nI (s i)) (a := 114) (j := i) (by omega)) (fun w hw' => hg1 w (by omega))
          rw [hax] at this
          exact this
  refine z_iconst 1 (v := nI 0) dX10_setShares_0 rfl rfl ?_
  refine zs_istore_n_3_7 2 rfl dX10_setShares_1 rfl rfl ?_
  refine z_iconst 3 (v := nI 0) dX10_setShares_2 rfl rfl ?_
  refine zs_istore_4_7 5 rfl dX10_setShares_3 rfl rfl ?_
  refine z_iconst 6 (v := nI 0) dX10_setShares_5 rfl rfl ?_
  refine zs_istore_5_7 8 rfl dX10_setShares_6 rfl rfl ?_
  exact loop1 0 (Nat.zero_le _) σ Fr.rf (fun w hw => absurd hw (Nat.not_lt_zero w))
set_option maxRecDepth 20000 in
theorem tX10_greatest {E : zE} {d : Nat} {σ : zM} {bw fav : Nat} {s : Nat → Nat} (h8 : bw ≤ 8) (hf : fav < bw) (hW0 : gi σ 109 0 = nI bw) (hS : mShr σ bw fav s) : Ret E mX10_greatest (d + 1) [zr E 102] σ (qI fun x τ => x = nI (hG s bw fav) ∧ τ = σ) := by
  rw [← hSh_amx hf]
  refine Ret.of [some (zr E 102), none, none] (by decide +kernel) (Nat.le_of_ble_eq_true rfl) rfl ?_
  have loop : ∀ i, i ≤ bw → 1 ≤ i → At E mX10_greatest (d + 1) (qI fun x τ => x = nI (amx (hSh s bw fav) bw) ∧ τ = σ) 4 [some (zr E 102), some (.int (nI (amx (hSh s bw fav) i))), some (.int (nI i))] [] σ := by
    refine z_up (fun i hi ih h1 => ?_)
    have ham := (amx_spec (hSh s bw fav) i (by omega)).1
    by_cases hib : i = bw
    · subst hib
      refine z_iload_n 5 dX10_greatest_4 rfl rfl ?_
      refine z_aload_n 6 dX10_greatest_5 rfl rfl ?_
      refine z_cVI0 9 (tX10_words0 hW0) kX10_words dX10_greatest_6 rfl lX10_144 (by first | assumption | rfl) (Nat.le_of_ble_eq_true rfl) ?_
      rintro _ _ ⟨e1, e2⟩
      replace e1 := e1.symm
      replace e2 := e2.symm
      subst e1
      subst e2
      refine z_icmp_ge 39 12 dX10_greatest_9 (by decide) rfl (fun h9 => ?_) (fun h9 => ?_)
      · (try rw [nI_leI (by omega) (by omega)] at h9)
        refine z_iload_n 40 dX10_greatest_39 rfl rfl ?_
        refine z_ri dX10_greatest_40 rfl ?_
        exact ⟨rfl, rfl⟩
      · (try rw [nI_leI (by omega) (by omega)] at h9)
        omega
    · have b1 := hSh_le s bw fav i (by omega)
      have b2 := hSh_le s bw fav (amx (hSh s bw fav) i) (by omega)
      refine z_iload_n 5 dX10_greatest_4 rfl rfl ?_
      refine z_aload_n 6 dX10_greatest_5 rfl rfl ?_
      refine z_cVI0 9 (tX10_words0 hW0) kX10_words dX10_greatest_6 rfl lX10_144 (by first | assumption | rfl) (Nat.le_of_ble_eq_true rfl) ?_
      rintro _ _ ⟨e1, e2⟩
      replace e1 := e1.symm
      replace e2 := e2.symm
      subst e1
      subst e2
      refine z_icmp_ge 39 12 dX10_greatest_9 (by decide) rfl (fun h9 => ?_) (fun h9 => ?_)
      · (try rw [nI_leI (by omega) (by omega)] at h9)
        omega
      · (try rw [nI_leI (by omega) (by omega)] at h9)
        refine z_aload_n 13 dX10_greatest_12 rfl rfl ?_
        refine gX10_50 16 rfl dX10_greatest_13 rfl ?_
        refine z_iload_n 17 dX10_greatest_16 rfl rfl ?_
        refine z_ialdn 18 dX10_greatest_17 rfl (by first | assumption | rfl) (by omega) ?_
        refine z_aload_n 19 dX10_greatest_18 rfl rfl ?_
        refine gX10_50 22 rfl dX10_greatest_19 rfl ?_
        refine z_iload_n 23 dX10_greatest_22 rfl rfl ?_
        refine z_ialdn 24 dX10_greatest_23 rfl (by first | assumption | rfl) (by omega) ?_
        rw [hS i (by omega), hS _ (by omega)]
        refine z_icmp_le 31 27 dX10_greatest_24 (by decide) rfl (fun h24 => ?_) (fun h24 => ?_)
        · (try rw [nI_leI (by omega) (by omega)] at h24)
          have hax : amx (hSh s bw fav) (i + 1) = amx (hSh s bw fav) i := by rw [amx, if_neg (by omega)]
          refine z_iload_n 32 dX10_greatest_31 rfl rfl ?_
          refine zs_istore_n_1_3 33 rfl dX10_greatest_32 rfl rfl ?_
          refine zs_iinc_2_3_1 36 rfl dX10_greatest_33 rfl rfl ?_
          rw [nI_add]
          refine z_goto 4 dX10_greatest_36 rfl ?_
          have := ih (i + 1) (by omega) (by omega) (by omega)
          rw [hax] at this
          exact this
        · (try rw [nI_leI (by omega) (by omega)] at h24)
          have hax : amx (hSh s bw fav) (i + 1) = i := by rw [amx, if_pos (by omega)]
          refine z_iload_n 28 dX10_greatest_27 rfl rfl ?_
          refine z_goto 32 dX10_greatest_28 rfl ?_
          refine zs_istore_n_1_3 33 rfl dX10_greatest_32 rfl rfl ?_
          refine zs_iinc_2_3_1 36 rfl dX10_greatest_33 rfl rfl ?_
          rw [nI_add]
          refine z_goto 4 dX10_greatest_36 rfl ?_
          have := ih (i + 1) (by omega) (by omega) (by omega)
          rw [hax] at this
          exact this
  refine z_iconst 1 (v := nI 0) dX10_greatest_0 rfl rfl ?_
  refine zs_istore_n_1_3 2 rfl dX10_greatest_1 rfl rfl ?_
  refine z_iconst 3 (v := nI 1) dX10_greatest_2 rfl rfl ?_
  refine zs_istore_n_2_3 4 rfl dX10_greatest_3 rfl rfl ?_
  have := loop 1 (by omega) (Nat.le_refl _)
  rw [show amx (hSh s bw fav) 1 = 0 by have := (amx_spec (hSh s bw fav) 1 (by omega)).1; omega] at this
  exact this
