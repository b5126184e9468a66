/-! guessing, of the landed code -/
theorem nI_sub {a b : Nat} (h : b ≤ a) : nI a - nI b = nI (a - b) := by
  have e : nI a = nI (a - b) + nI b := by rw [nI_add]; congr 1; omega
  rw [e, Int32.add_sub_cancel]
def DrG (σ : zM) (a n : Nat) (g : Nat → Nat) : Prop := gi σ a 1 = nI n ∧ ∀ i, i < n → gi σ (a + 1) i = nI (g i)
theorem DrG.fr {P : Nat → Nat → Prop} {σ τ : zM} {a n : Nat} {g : Nat → Nat} (h : DrG σ a n g) (hF : Fr P σ τ) (h1 : ∀ j, ¬ P a j) (h2 : ∀ j, ¬ P (a + 1) j) : DrG τ a n g := ⟨(hF.gi (h1 1)).trans h.1, fun i hi => (hF.gi (h2 _)).trans (h.2 i hi)⟩
/-- parts, one to six, unlike -/
def PtsOK (n : Nat) (g : Nat → Nat) : Prop := 1 ≤ n ∧ n ≤ 6 ∧ ∀ i, i < n → g i < 10 ∧ ∀ j, j < i → g i ≠ g j
set_option maxRecDepth 20000 in
theorem tX2_setG {E : zE} {d : Nat} {σ : zM} {a n : Nat} {g : Nat → Nat} (ha : (kd a).1 = 2) (ha1 : kd (a + 1) = (11, 6)) (hD : DrG σ a n g) (hl : n ≤ 6) (hp : ∀ i, i < n → g i < 10) : Ret E mX2_set d [zr E a] σ (qI fun x τ => x = nI (pset g n) ∧ τ = σ) := by
  refine Ret.of [some (zr E a), none, none] (by decide +kernel) (Nat.le_of_ble_eq_true rfl) rfl ?_
  have hs : gi σ a 1 = nI n := hD.1
  have loop : ∀ i, i ≤ n → At E mX2_set d (qI fun x τ => x = nI (pset g n) ∧ τ = σ) 4 [some (zr E a), some (.int (nI (pset g i))), some (.int (nI i))] [] σ := by
    refine z_up (fun i hi ih => ?_)
    refine z_iload_n 5 dX2_set_4 rfl rfl ?_
    refine z_aload_n 6 dX2_set_5 rfl rfl ?_
    refine gX2_15 9 rfl dX2_set_6 rfl (by first | assumption | rfl) ?_
    rw [hs]
    refine z_icmp_ge 29 12 dX2_set_9 (by decide) rfl (fun h9 => ?_) (fun h9 => ?_)
    · (try rw [nI_leI (by omega) (by omega)] at h9)
      have hil : i = n := by omega
      subst hil
      refine z_iload_n 30 dX2_set_29 rfl rfl ?_
      refine z_ri dX2_set_30 rfl ?_
      exact ⟨rfl, rfl⟩
    · (try rw [nI_leI (by omega) (by omega)] at h9)
      have hil : i < n := by omega
      have hg := hp i hil
      refine z_iload_n 13 dX2_set_12 rfl rfl ?_
      refine z_iconst 14 (v := nI 1) dX2_set_13 rfl rfl ?_
      refine z_aload_n 15 dX2_set_14 rfl rfl ?_
      refine gX2_9 18 rfl dX2_set_15 rfl (by first | assumption | rfl) ?_
      refine z_iload_n 19 dX2_set_18 rfl rfl ?_
      refine z_ialdn 20 dX2_set_19 rfl (by first | assumption | rfl) (by omega) ?_
      rw [hD.2 i hil]
      refine z_ishl 21 dX2_set_20 rfl ?_
      rw [zb_shl (by omega)]
      refine z_ior 22 dX2_set_21 rfl ?_
      rw [zb_or]
      refine zs_istore_n_1_3 23 rfl dX2_set_22 rfl rfl ?_
      refine zs_iinc_2_3_1 26 rfl dX2_set_23 rfl rfl ?_
      rw [nI_add]
      refine z_goto 4 dX2_set_26 rfl ?_
      exact ih (i + 1) (by omega) (by omega)
  refine z_iconst 1 (v := nI 0) dX2_set_0 rfl rfl ?_
  refine zs_istore_n_1_3 2 rfl dX2_set_1 rfl rfl ?_
  refine z_iconst 3 (v := nI 0) dX2_set_2 rfl rfl ?_
  refine zs_istore_n_2_3 4 rfl dX2_set_3 rfl rfl ?_
  exact loop 0 (Nat.zero_le _)
/-- who drew: not known, or a player with his sets -/
def ByV (E : zE) (σ : zM) (v : Value) (bw : Nat) (D : Nat → Nat) : Prop := (v = .null ∧ ∀ w, D w = 0) ∨ ∃ c, v = zr E c ∧ (kd c).1 = 4 ∧ kd (c + 1) = (11, 8) ∧ ∀ w, w < bw → gi σ (c + 1) w = nI (D w) ∧ D w < 1024
theorem ByV.fr {E : zE} {P : Nat → Nat → Prop} {σ τ : zM} {v : Value} {bw : Nat} {D : Nat → Nat} (h : ByV E σ v bw D) (hF : Fr P σ τ) (hP : ∀ c j, (kd c).1 = 4 → ¬ P (c + 1) j) : ByV E τ v bw D := by
  rcases h with h | ⟨c, h1, h2, h3, h4⟩
  · exact Or.inl h
  · exact Or.inr ⟨c, h1, h2, h3, fun w hw => ⟨(hF.gi (hP c _ h2)).trans (h4 w hw).1, (h4 w hw).2⟩⟩
set_option maxRecDepth 20000 in
theorem tX6_sumOf {E : zE} {d : Nat} {σ : zM} {a b c bw w n : Nat} {q : sPly} {u : Nat → Nat → Nat} {g D : Nat → Nat} {v : Value} (ha : (kd a).1 = 2) (ha1 : kd (a + 1) = (11, 6)) (hc : (kd c).1 = 4) (hb : (kd b).1 = 1) (hb1 : kd (b + 1) = (11, 80)) (hP : Py σ c q b) (hq : q.1 < 6) (hqf : q.2.2.2 < 8) (hB : Bx σ b bw u) (hw : w < bw) (hu : ∀ p, p < 10 → u w p ≤ 9) (hD : DrG σ a n g) (hG : PtsOK n g) (hV : ByV E σ v bw D) : Ret E mX6_sumOf (d + 1) [zr E 10, zr E c, zr E a, v, .int (nI w)] σ (qI fun x τ => x = nI (gS q u n g D w) ∧ τ = σ) := by
  obtain ⟨g1, g6, gg⟩ := hG
  obtain ⟨p1, p2, p3, p4, p5⟩ := hP
  have hw8 : w < 8 := Nat.lt_of_lt_of_le hw hB.2.1
  have hs : gi σ a 1 = nI n := hD.1
  obtain ⟨lk, hlk⟩ : ∃ lk, lk = if q.1 = 3 then 1 else n := ⟨_, rfl⟩
  have hlk6 : lk ≤ n := by rw [hlk]; split <;> omega
  obtain ⟨bs, hbs⟩ : ∃ bs, bs = if q.1 = 2 ∧ w = q.2.2.2 then 9 else 0 := ⟨_, rfl⟩
  have hbs9 : bs ≤ 9 := by rw [hbs]; split <;> omega
  obtain ⟨f, hf⟩ : ∃ f, f = fun i => u w (if q.1 = 4 then 9 - g i else g i) := ⟨_, rfl⟩
  have hf9 : ∀ i, i < n → f i ≤ 9 := fun i hi => by
    rw [hf]
    refine hu _ ?_
    have := (gg i hi).1
    split <;> omega
  have hfs : ∀ k, k ≤ n → fsum f k ≤ 9 * k := fun k hk => fsum_bd k (fun i hi => hf9 i (by omega))
  have eS : gS q u n g D w = bs + fsum f lk + (if q.1 = 5 then 4 * fsum (fun i => if (D w).testBit (g i) then 1 else 0) n else 0) := by rw [hbs, hf, hlk]; rfl
  have s141 : ∀ s, s = gS q u n g D w → ∀ y6 y7 : Option Value, At E mX6_sumOf (d + 1) (qI fun x τ => x = nI (gS q u n g D w) ∧ τ = σ) 141 [some (zr E 10), some (zr E c), some (zr E a), some v, some (.int (nI w)), some (.int (nI s)), y6, y7, none] [] σ := by
    intro s hs y6 y7
    subst hs
    refine z_iload 143 dX6_sumOf_141 rfl rfl ?_
    refine z_ri dX6_sumOf_143 rfl ?_
    exact ⟨rfl, rfl⟩
  have s107 : At E mX6_sumOf (d + 1) (qI fun x τ => x = nI (gS q u n g D w) ∧ τ = σ) 107 [some (zr E 10), some (zr E c), some (zr E a), some v, some (.int (nI w)), some (.int (nI (bs + fsum f lk))), some (.int (nI lk)), some (.int (nI lk)), none] [] σ := by
    by_cases hk5 : q.1 = 5
    · rcases hV with ⟨rfl, hV0⟩ | ⟨c2, rfl, hk2, hk3, hV2⟩
      · refine z_aload_n 108 dX6_sumOf_107 rfl rfl ?_
        refine gX6_45 111 rfl dX6_sumOf_108 rfl (by first | assumption | rfl) ?_
        rw [p1]
        refine z_iconst 112 (v := nI 5) dX6_sumOf_111 rfl rfl ?_
        refine z_icmp_ne 141 115 dX6_sumOf_112 (by decide) rfl (fun h112 => ?_) (fun h112 => ?_)
        · (try rw [nI_eq (by omega) (by omega)] at h112)
          omega
        · (try rw [nI_eq (by omega) (by omega)] at h112)
          refine z_aload_nN 116 dX6_sumOf_115 rfl rfl ?_
          refine z_ifnullN 141 dX6_sumOf_116 (by decide) ?_
          refine s141 _ ?_ _ _
          rw [eS, if_pos hk5, fsum_congr (g := fun _ => 0) n (fun i _ => by rw [hV0, Nat.zero_testBit]; rfl), fsum_zero, Nat.mul_zero, Nat.add_zero]
      · obtain ⟨v1, v2⟩ := hV2 w hw
        have hps : pset g n < 1024 := pset_lt g 10 n (fun i hi => (gg i hi).1)
        have hand : D w &&& pset g n < 1024 := Nat.lt_of_le_of_lt Nat.and_le_left v2
        refine z_aload_n 108 dX6_sumOf_107 rfl rfl ?_
        refine gX6_45 111 rfl dX6_sumOf_108 rfl (by first | assumption | rfl) ?_
        rw [p1]
        refine z_iconst 112 (v := nI 5) dX6_sumOf_111 rfl rfl ?_
        refine z_icmp_ne 141 115 dX6_sumOf_112 (by decide) rfl (fun h112 => ?_) (fun h112 => ?_)
        · (try rw [nI_eq (by omega) (by omega)] at h112)
          omega
        · (try rw [nI_eq (by omega) (by omega)] at h112)
          refine z_aload_n 116 dX6_sumOf_115 rfl rfl ?_
          refine z_ifnull 119 dX6_sumOf_116 rfl ?_
          refine z_iload 121 dX6_sumOf_119 rfl rfl ?_
          refine z_iconst 122 (v := nI 4) dX6_sumOf_121 rfl rfl ?_
          refine z_aload_n 123 dX6_sumOf_122 rfl rfl ?_
          refine gX6_65 126 rfl dX6_sumOf_123 rfl (by first | assumption | rfl) ?_
          refine z_iload 128 dX6_sumOf_126 rfl rfl ?_
          refine z_ialdn 129 dX6_sumOf_128 rfl (by first | assumption | rfl) (by omega) ?_
          rw [v1]
          refine z_aload_n 130 dX6_sumOf_129 rfl rfl ?_
          refine z_cVI0 133 (tX2_setG ha ha1 hD g6 (fun i hi => (gg i hi).1)) kX2_set dX6_sumOf_130 rfl lX6_68 (by first | assumption | rfl) (Nat.le_of_ble_eq_true rfl) ?_
          rintro _ _ ⟨e1, e2⟩
          replace e1 := e1.symm
          replace e2 := e2.symm
          subst e1
          subst e2
          refine z_iand 134 dX6_sumOf_133 rfl ?_
          rw [zb_and]
          refine z_cSI1 137 (tJ6_bitCount_0f7a4 hand) kJ6_bitCount_0f7a4 dX6_sumOf_134 rfl lX6_72 (Nat.le_of_ble_eq_true rfl) ?_
          rintro _ _ ⟨e1, e2⟩
          replace e1 := e1.symm
          replace e2 := e2.symm
          subst e1
          subst e2
          rw [pop_pset _ _ _ gg]
          refine z_imul 138 dX6_sumOf_137 rfl ?_
          refine z_iadd 139 dX6_sumOf_138 rfl ?_
          rw [nI_mul, nI_add]
          refine zs_istore_5_9 141 rfl dX6_sumOf_139 rfl rfl ?_
          refine s141 _ ?_ _ _
          rw [eS, if_pos hk5]
    · refine z_aload_n 108 dX6_sumOf_107 rfl rfl ?_
      refine gX6_45 111 rfl dX6_sumOf_108 rfl (by first | assumption | rfl) ?_
      rw [p1]
      refine z_iconst 112 (v := nI 5) dX6_sumOf_111 rfl rfl ?_
      refine z_icmp_ne 141 115 dX6_sumOf_112 (by decide) rfl (fun h112 => ?_) (fun h112 => ?_)
      · (try rw [nI_eq (by omega) (by omega)] at h112)
        refine s141 _ ?_ _ _
        rw [eS, if_neg hk5, Nat.add_zero]
      · (try rw [nI_eq (by omega) (by omega)] at h112)
        omega
  have loop : ∀ i, i ≤ lk → At E mX6_sumOf (d + 1) (qI fun x τ => x = nI (gS q u n g D w) ∧ τ = σ) 53 [some (zr E 10), some (zr E c), some (zr E a), some v, some (.int (nI w)), some (.int (nI (bs + fsum f i))), some (.int (nI lk)), some (.int (nI i)), none] [] σ := by
    refine z_up (fun i hi ih => ?_)
    by_cases hil : i = lk
    · subst hil
      refine z_iload 55 dX6_sumOf_53 rfl rfl ?_
      refine z_iload 57 dX6_sumOf_55 rfl rfl ?_
      refine z_icmp_ge 107 60 dX6_sumOf_57 (by decide) rfl (fun h57 => ?_) (fun h57 => ?_)
      · (try rw [nI_leI (by omega) (by omega)] at h57)
        exact s107
      · (try rw [nI_leI (by omega) (by omega)] at h57)
        omega
    · have hin : i < n := by omega
      have hgi := (gg i hin).1
      refine z_iload 55 dX6_sumOf_53 rfl rfl ?_
      refine z_iload 57 dX6_sumOf_55 rfl rfl ?_
      refine z_icmp_ge 107 60 dX6_sumOf_57 (by decide) rfl (fun h57 => ?_) (fun h57 => ?_)
      · (try rw [nI_leI (by omega) (by omega)] at h57)
        omega
      · (try rw [nI_leI (by omega) (by omega)] at h57)
        refine z_aload_n 61 dX6_sumOf_60 rfl rfl ?_
        refine gX6_59 64 rfl dX6_sumOf_61 rfl (by first | assumption | rfl) ?_
        refine z_iload 66 dX6_sumOf_64 rfl rfl ?_
        refine z_ialdn 67 dX6_sumOf_66 rfl (by first | assumption | rfl) (by omega) ?_
        rw [hD.2 i hin]
        refine zs_istore_8_9 69 rfl dX6_sumOf_67 rfl rfl ?_
        refine z_iload 71 dX6_sumOf_69 rfl rfl ?_
        refine z_aload_n 72 dX6_sumOf_71 rfl rfl ?_
        refine gX6_22 75 rfl dX6_sumOf_72 rfl (by first | assumption | rfl) ?_
        rw [p5]
        refine z_iload 77 dX6_sumOf_75 rfl rfl ?_
        refine z_aload_n 78 dX6_sumOf_77 rfl rfl ?_
        refine gX6_45 81 rfl dX6_sumOf_78 rfl (by first | assumption | rfl) ?_
        rw [p1]
        refine z_iconst 82 (v := nI 4) dX6_sumOf_81 rfl rfl ?_
        refine z_icmp_ne 93 85 dX6_sumOf_82 (by decide) rfl (fun h82 => ?_) (fun h82 => ?_)
        · (try rw [nI_eq (by omega) (by omega)] at h82)
          refine z_iload 95 dX6_sumOf_93 rfl rfl ?_
          refine z_cVI2 98 (tX1_usualOf hb hb1 hB (by omega) (by omega)) kX1_usualOf dX6_sumOf_95 rfl lX6_62 (by first | assumption | rfl) (Nat.le_of_ble_eq_true rfl) ?_
          rintro _ _ ⟨e1, e2⟩
          replace e1 := e1.symm
          replace e2 := e2.symm
          subst e1
          subst e2
          rw [show uz bw u w _ = u w _ from if_pos hw]
          refine z_iadd 99 dX6_sumOf_98 rfl ?_
          rw [nI_add]
          refine zs_istore_5_9 101 rfl dX6_sumOf_99 rfl rfl ?_
          refine zs_iinc_7_9_1 104 rfl dX6_sumOf_101 rfl rfl ?_
          rw [nI_add]
          refine z_goto 53 dX6_sumOf_104 rfl ?_
          refine zf_8_9 ?_
          have hz : f i = u w (if q.1 = 4 then 9 - g i else g i) := by rw [hf]
          have := ih (i + 1) (by omega) (by omega)
          rw [fsum, hz, ← Nat.add_assoc] at this
          first | (rw [if_pos (by omega)] at this; exact this) | (rw [if_neg (by omega)] at this; exact this)
        · (try rw [nI_eq (by omega) (by omega)] at h82)
          refine z_bipush 87 (v := nI 9) dX6_sumOf_85 rfl rfl ?_
          refine z_iload 89 dX6_sumOf_87 rfl rfl ?_
          refine z_isub 90 dX6_sumOf_89 rfl ?_
          rw [nI_sub (show g i ≤ 9 by omega)]
          refine z_goto 95 dX6_sumOf_90 rfl ?_
          refine z_cVI2 98 (tX1_usualOf hb hb1 hB (by omega) (by omega)) kX1_usualOf dX6_sumOf_95 rfl lX6_62 (by first | assumption | rfl) (Nat.le_of_ble_eq_true rfl) ?_
          rintro _ _ ⟨e1, e2⟩
          replace e1 := e1.symm
          replace e2 := e2.symm
          subst e1
          subst e2
          rw [show uz bw u w _ = u w _ from if_pos hw]
          refine z_iadd 99 dX6_sumOf_98 rfl ?_
          rw [nI_add]
          refine zs_istore_5_9 101 rfl dX6_sumOf_99 rfl rfl ?_
          refine zs_iinc_7_9_1 104 rfl dX6_sumOf_101 rfl rfl ?_
          rw [nI_add]
          refine z_goto 53 dX6_sumOf_104 rfl ?_
          refine zf_8_9 ?_
          have hz : f i = u w (if q.1 = 4 then 9 - g i else g i) := by rw [hf]
          have := ih (i + 1) (by omega) (by omega)
          rw [fsum, hz, ← Nat.add_assoc] at this
          first | (rw [if_pos (by omega)] at this; exact this) | (rw [if_neg (by omega)] at this; exact this)
  have s23 : At E mX6_sumOf (d + 1) (qI fun x τ => x = nI (gS q u n g D w) ∧ τ = σ) 23 [some (zr E 10), some (zr E c), some (zr E a), some v, some (.int (nI w)), none, none, none, none] [.int (nI bs)] σ := by
    refine zs_istore_5_9 25 rfl dX6_sumOf_23 rfl rfl ?_
    refine z_aload_n 26 dX6_sumOf_25 rfl rfl ?_
    refine gX6_45 29 rfl dX6_sumOf_26 rfl (by first | assumption | rfl) ?_
    rw [p1]
    refine z_iconst 30 (v := nI 3) dX6_sumOf_29 rfl rfl ?_
    refine z_icmp_ne 44 33 dX6_sumOf_30 (by decide) rfl (fun h30 => ?_) (fun h30 => ?_)
    · (try rw [nI_eq (by omega) (by omega)] at h30)
      refine z_aload_n 45 dX6_sumOf_44 rfl rfl ?_
      refine gX6_48 48 rfl dX6_sumOf_45 rfl (by first | assumption | rfl) ?_
      try rw [hs]
      refine zs_istore_6_9 50 rfl dX6_sumOf_48 rfl rfl ?_
      refine z_iconst 51 (v := nI 0) dX6_sumOf_50 rfl rfl ?_
      refine zs_istore_7_9 53 rfl dX6_sumOf_51 rfl rfl ?_
      have := loop 0 (Nat.zero_le _)
      rw [show bs + fsum f 0 = bs from rfl] at this
      first | (rw [show lk = 1 by rw [hlk, if_pos (by omega)]] at this; exact this) | (rw [show lk = n by rw [hlk, if_neg (by omega)]] at this; exact this)
    · (try rw [nI_eq (by omega) (by omega)] at h30)
      refine z_iconst 34 (v := nI 1) dX6_sumOf_33 rfl rfl ?_
      refine z_aload_n 35 dX6_sumOf_34 rfl rfl ?_
      refine gX6_48 38 rfl dX6_sumOf_35 rfl (by first | assumption | rfl) ?_
      rw [hs]
      refine z_mmin 41 dX6_sumOf_38 rfl lX6_53 kM_min_s kM_i kM_min_c (Nat.le_of_ble_eq_true rfl) ?_
      rw [nI_min (by decide) (by omega), Nat.min_eq_left g1]
      refine z_goto 48 dX6_sumOf_41 rfl ?_
      try rw [hs]
      refine zs_istore_6_9 50 rfl dX6_sumOf_48 rfl rfl ?_
      refine z_iconst 51 (v := nI 0) dX6_sumOf_50 rfl rfl ?_
      refine zs_istore_7_9 53 rfl dX6_sumOf_51 rfl rfl ?_
      have := loop 0 (Nat.zero_le _)
      rw [show bs + fsum f 0 = bs from rfl] at this
      first | (rw [show lk = 1 by rw [hlk, if_pos (by omega)]] at this; exact this) | (rw [show lk = n by rw [hlk, if_neg (by omega)]] at this; exact this)
  have hAt : At E mX6_sumOf (d + 1) (qI fun x τ => x = nI (gS q u n g D w) ∧ τ = σ) 0 [some (zr E 10), some (zr E c), some (zr E a), some v, some (.int (nI w)), none, none, none, none] [] σ := by
    refine z_aload_n 1 dX6_sumOf_0 rfl rfl ?_
    refine gX6_45 4 rfl dX6_sumOf_1 rfl (by first | assumption | rfl) ?_
    rw [p1]
    refine z_iconst 5 (v := nI 2) dX6_sumOf_4 rfl rfl ?_
    refine z_icmp_ne 22 8 dX6_sumOf_5 (by decide) rfl (fun h5 => ?_) (fun h5 => ?_)
    · (try rw [nI_eq (by omega) (by omega)] at h5)
      refine z_iconst 23 (v := nI 0) dX6_sumOf_22 rfl rfl ?_
      first | (rw [show bs = 9 by rw [hbs, if_pos (by omega)]] at s23; exact s23) | (rw [show bs = 0 by rw [hbs, if_neg (by omega)]] at s23; exact s23)
    · (try rw [nI_eq (by omega) (by omega)] at h5)
      refine z_iload 10 dX6_sumOf_8 rfl rfl ?_
      refine z_aload_n 11 dX6_sumOf_10 rfl rfl ?_
      refine gX6_35 14 rfl dX6_sumOf_11 rfl (by first | assumption | rfl) ?_
      rw [p4]
      refine z_icmp_ne 22 17 dX6_sumOf_14 (by decide) rfl (fun h14 => ?_) (fun h14 => ?_)
      · (try rw [nI_eq (by omega) (by omega)] at h14)
        refine z_iconst 23 (v := nI 0) dX6_sumOf_22 rfl rfl ?_
        first | (rw [show bs = 9 by rw [hbs, if_pos (by omega)]] at s23; exact s23) | (rw [show bs = 0 by rw [hbs, if_neg (by omega)]] at s23; exact s23)
      · (try rw [nI_eq (by omega) (by omega)] at h14)
        refine z_bipush 19 (v := nI 9) dX6_sumOf_17 rfl rfl ?_
        refine z_goto 23 dX6_sumOf_19 rfl ?_
        first | (rw [show bs = 9 by rw [hbs, if_pos (by omega)]] at s23; exact s23) | (rw [show bs = 0 by rw [hbs, if_neg (by omega)]] at s23; exact s23)
  rcases hV with ⟨rfl, hV0⟩ | ⟨c2, rfl, hk2, hk3, hV2⟩
  · exact Ret.of _ (by decide +kernel) (Nat.le_of_ble_eq_true rfl) rfl hAt
  · exact Ret.of _ (by decide +kernel) (Nat.le_of_ble_eq_true rfl) rfl hAt
set_option maxRecDepth 20000 in
theorem tX6_share {E : zE} {d : Nat} {σ : zM} {bw fav : Nat} {s : Nat → Nat} (h8 : bw ≤ 8) (hf : fav < bw) (hw : gi σ 10 2 = nI bw) (hg : gi σ 10 3 = nI (hG s bw fav)) (hs : ∀ w, w < bw → gi σ 11 w = nI (s w) ∧ s w ≤ 87) : Ret E mX6_share d [zr E 10, .int (nI (fsum s bw))] σ (qV fun τ => Fr (fun x y => x = 12) σ τ ∧ ∀ w, w < bw → gi τ 12 w = nI (hSh s bw fav w)) := by
  have hall : fsum s bw ≤ 87 * bw := fsum_bd bw (fun i hi => (hs i hi).2)
  have hG8 := hG_lt (s := s) hf
  have h24 := hSb_sum s bw
  have hpre : ∀ k, k ≤ bw → fsum (hSb s bw) k ≤ 24 := by
    intro k hk
    have : ∀ m, k ≤ m → fsum (hSb s bw) k ≤ fsum (hSb s bw) m := by
      intro m
      induction m with
      | zero => intro h; rw [show k = 0 by omega]; exact Nat.le_refl _
      | succ m ih =>
        intro h
        by_cases hkm : k = m + 1
        · rw [hkm]; exact Nat.le_refl _
        · have := ih (by omega); rw [fsum]; omega
    have := this bw hk
    omega
  refine Ret.of [some (zr E 10), some (.int (nI (fsum s bw))), none, none] (by decide +kernel) (Nat.le_of_ble_eq_true rfl) rfl ?_
  have loop : ∀ i, i ≤ bw → ∀ τ, Fr (fun x y => x = 12) σ τ → (∀ w, w < i → gi τ 12 w = nI (hSb s bw w)) → At E mX6_share d (qV fun τ => Fr (fun x y => x = 12) σ τ ∧ ∀ w, w < bw → gi τ 12 w = nI (hSh s bw fav w)) 5 [some (zr E 10), some (.int (nI (fsum s bw))), some (.int (nI (24 - fsum (hSb s bw) i))), some (.int (nI i))] [] τ := by
    refine z_up (fun i hi ih τ hF hv => ?_)
    have hwT : gi τ 10 2 = nI bw := (hF.gi (by omega)).trans hw
    have hgT : gi τ 10 3 = nI (hG s bw fav) := (hF.gi (by omega)).trans hg
    by_cases hib : i = bw
    · subst hib
      refine z_iload_n 6 dX6_share_5 rfl rfl ?_
      refine z_aload_n 7 dX6_share_6 rfl rfl ?_
      refine gX6_18 10 rfl dX6_share_7 rfl (by first | assumption | rfl) ?_
      rw [hwT]
      refine z_icmp_ge 53 13 dX6_share_10 (by decide) rfl (fun h10 => ?_) (fun h10 => ?_)
      · (try rw [nI_leI (by omega) (by omega)] at h10)
        refine z_aload_n 54 dX6_share_53 rfl rfl ?_
        refine gX6_38 57 rfl dX6_share_54 rfl (by first | assumption | rfl) ?_
        rw [hgT]
        refine z_if_lt 84 60 dX6_share_57 (by decide) rfl (fun h57 => ?_) (fun h57 => ?_)
        · exact absurd h57 (nI_pos (by omega))
        · refine z_aload_n 61 dX6_share_60 rfl rfl ?_
          refine gX6_38 64 rfl dX6_share_61 rfl (by first | assumption | rfl) ?_
          rw [hgT]
          refine z_aload_n 65 dX6_share_64 rfl rfl ?_
          refine gX6_18 68 rfl dX6_share_65 rfl (by first | assumption | rfl) ?_
          rw [hwT]
          refine z_icmp_ge 84 71 dX6_share_68 (by decide) rfl (fun h68 => ?_) (fun h68 => ?_)
          · (try rw [nI_leI (by omega) (by omega)] at h68)
            omega
          · (try rw [nI_leI (by omega) (by omega)] at h68)
            refine z_aload_n 72 dX6_share_71 rfl rfl ?_
            refine gX6_15 75 rfl dX6_share_72 rfl (by first | assumption | rfl) ?_
            refine z_aload_n 76 dX6_share_75 rfl rfl ?_
            refine gX6_38 79 rfl dX6_share_76 rfl (by first | assumption | rfl) ?_
            rw [hgT]
            refine z_dup2 80 dX6_share_79 rfl rfl rfl ?_
            refine z_ialdn 81 dX6_share_80 rfl (by first | assumption | rfl) (by omega) ?_
            rw [hv _ hG8]
            refine z_iload_n 82 dX6_share_81 rfl rfl ?_
            refine z_iadd 83 dX6_share_82 rfl ?_
            rw [nI_add]
            refine z_iastn 84 dX6_share_83 rfl (by first | assumption | rfl) (by omega) ?_
            refine z_rv dX6_share_84 rfl ?_
            refine ⟨hF.si _ rfl, fun w hw' => ?_⟩
            rw [gi_si]
            unfold hSh
            by_cases hwg : w = hG s i fav
            · rw [if_pos ⟨rfl, hwg⟩, if_pos hwg, hwg]
            · rw [if_neg (fun z => hwg z.2), if_neg hwg, hv w hw']; rfl
      · (try rw [nI_leI (by omega) (by omega)] at h10)
        omega
    · have hsi := hs i (by omega)
      have hp1 := hpre (i + 1) (by omega)
      rw [fsum] at hp1
      have hst : ∀ x, x = hSb s bw i → At E mX6_share d (qV fun τ => Fr (fun x y => x = 12) σ τ ∧ ∀ w, w < bw → gi τ 12 w = nI (hSh s bw fav w)) 37 [some (zr E 10), some (.int (nI (fsum s bw))), some (.int (nI (24 - fsum (hSb s bw) i))), some (.int (nI i))] [.int (nI x), .int (nI i), zr E 12] τ := by
        intro x hx
        subst hx
        refine z_iastn 38 dX6_share_37 rfl (by first | assumption | rfl) (by omega) ?_
        refine z_iload_n 39 dX6_share_38 rfl rfl ?_
        refine z_aload_n 40 dX6_share_39 rfl rfl ?_
        refine gX6_15 43 rfl dX6_share_40 rfl (by first | assumption | rfl) ?_
        refine z_iload_n 44 dX6_share_43 rfl rfl ?_
        refine z_ialdn 45 dX6_share_44 rfl (by first | assumption | rfl) (by omega) ?_
        rw [gi_s1]
        refine z_isub 46 dX6_share_45 rfl ?_
        rw [nI_sub (by omega)]
        refine zs_istore_n_2_4 47 rfl dX6_share_46 rfl rfl ?_
        refine zs_iinc_3_4_1 50 rfl dX6_share_47 rfl rfl ?_
        rw [nI_add]
        refine z_goto 5 dX6_share_50 rfl ?_
        have := ih (i + 1) (by omega) (by omega) _ (hF.si (nI (hSb s bw i)) (a := 12) (j := i) rfl) (fun w hw' => ?_)
        · rw [fsum, show 24 - (fsum (hSb s bw) i + hSb s bw i) = 24 - fsum (hSb s bw) i - hSb s bw i by omega] at this
          exact this
        · rw [gi_si]
          by_cases hwi : w = i
          · rw [if_pos ⟨rfl, hwi⟩, hwi]
          · rw [if_neg (fun z => hwi z.2)]; exact hv w (by omega)
      refine z_iload_n 6 dX6_share_5 rfl rfl ?_
      refine z_aload_n 7 dX6_share_6 rfl rfl ?_
      refine gX6_18 10 rfl dX6_share_7 rfl (by first | assumption | rfl) ?_
      rw [hwT]
      refine z_icmp_ge 53 13 dX6_share_10 (by decide) rfl (fun h10 => ?_) (fun h10 => ?_)
      · (try rw [nI_leI (by omega) (by omega)] at h10)
        omega
      · (try rw [nI_leI (by omega) (by omega)] at h10)
        refine z_aload_n 14 dX6_share_13 rfl rfl ?_
        refine gX6_15 17 rfl dX6_share_14 rfl (by first | assumption | rfl) ?_
        refine z_iload_n 18 dX6_share_17 rfl rfl ?_
        refine z_iload_n 19 dX6_share_18 rfl rfl ?_
        refine z_if_ne 26 22 dX6_share_19 (by decide) rfl (fun h19 => ?_) (fun h19 => ?_)
        · (try rw [nI_eq0 (by omega)] at h19)
          refine z_bipush 28 (v := nI 24) dX6_share_26 rfl rfl ?_
          refine z_aload_n 29 dX6_share_28 rfl rfl ?_
          refine gX6_9 32 rfl dX6_share_29 rfl (by first | assumption | rfl) ?_
          refine z_iload_n 33 dX6_share_32 rfl rfl ?_
          refine z_ialdn 34 dX6_share_33 rfl (by first | assumption | rfl) (by omega) ?_
          rw [hF.gi (by omega), hsi.1]
          refine z_imul 35 dX6_share_34 rfl ?_
          rw [nI_mul]
          refine z_iload_n 36 dX6_share_35 rfl rfl ?_
          refine z_idiv 37 dX6_share_36 rfl (fun z => h19 ((nI_eq0 (by omega)).mp z)) ?_
          first | (refine hst 0 ?_; exact (if_pos h19).symm) | (rw [pk_div (by omega) (by omega) (by omega)]; refine hst _ ?_; exact (if_neg h19).symm)
        · (try rw [nI_eq0 (by omega)] at h19)
          refine z_iconst 23 (v := nI 0) dX6_share_22 rfl rfl ?_
          refine z_goto 37 dX6_share_23 rfl ?_
          first | (refine hst 0 ?_; exact (if_pos h19).symm) | (rw [pk_div (by omega) (by omega) (by omega)]; refine hst _ ?_; exact (if_neg h19).symm)
  refine z_bipush 2 (v := nI 24) dX6_share_0 rfl rfl ?_
  refine zs_istore_n_2_4 3 rfl dX6_share_2 rfl rfl ?_
  refine z_iconst 4 (v := nI 0) dX6_share_3 rfl rfl ?_
  refine zs_istore_n_3_4 5 rfl dX6_share_4 rfl rfl ?_
  exact loop 0 (Nat.zero_le _) σ Fr.rf (fun w hw => absurd hw (Nat.not_lt_zero w))
set_option maxRecDepth 20000 in
theorem tX6_get {E : zE} {d : Nat} {σ : zM} {bw w : Nat} (h8 : bw ≤ 8) (hw : gi σ 10 2 = nI bw) (hwb : w < bw) : Ret E mX6_get d [zr E 10, .int (nI w)] σ (qI fun x τ => x = gi σ 12 w ∧ τ = σ) := by
  refine Ret.of [some (zr E 10), some (.int (nI w))] (by decide +kernel) (Nat.le_of_ble_eq_true rfl) rfl ?_
  refine z_iload_n 1 dX6_get_0 rfl rfl ?_
  refine z_if_lt 21 4 dX6_get_1 (by decide) rfl (fun h1 => ?_) (fun h1 => ?_)
  · exact absurd h1 (nI_pos (by omega))
  · refine z_iload_n 5 dX6_get_4 rfl rfl ?_
    refine z_aload_n 6 dX6_get_5 rfl rfl ?_
    refine gX6_18 9 rfl dX6_get_6 rfl (by first | assumption | rfl) ?_
    rw [hw]
    refine z_icmp_ge 21 12 dX6_get_9 (by decide) rfl (fun h9 => ?_) (fun h9 => ?_)
    · (try rw [nI_leI (by omega) (by omega)] at h9)
      omega
    · (try rw [nI_leI (by omega) (by omega)] at h9)
      refine z_aload_n 13 dX6_get_12 rfl rfl ?_
      refine gX6_15 16 rfl dX6_get_13 rfl (by first | assumption | rfl) ?_
      refine z_iload_n 17 dX6_get_16 rfl rfl ?_
      refine z_ialdn 18 dX6_get_17 rfl (by first | assumption | rfl) (by omega) ?_
      refine z_goto 22 dX6_get_18 rfl ?_
      refine z_ri dX6_get_22 rfl ?_
      exact ⟨rfl, rfl⟩
theorem zck_of {ls : List (Option Value)} {i : Nat} {w : Value} (h : ls[i]? = some (some w)) (hw : w.category = 1) : zck ls (i + 1) = true := by
  unfold zck
  simp only [h]
  cases w <;> simp_all [Value.category]
theorem ByV.cat {E : zE} {σ : zM} {v : Value} {bw : Nat} {D : Nat → Nat} (h : ByV E σ v bw D) : v.category = 1 := by
  rcases h with ⟨rfl, -⟩ | ⟨c, rfl, -⟩ <;> rfl
/-- shares in cells -/
def Shr (σ : zM) (bw fav : Nat) (s : Nat → Nat) : Prop := gi σ 10 2 = nI bw ∧ gi σ 10 3 = nI (hG s bw fav) ∧ ∀ w, w < bw → gi σ 12 w = nI (hSh s bw fav w)
set_option maxRecDepth 20000 in
theorem tX6_reckon {E : zE} {d : Nat} {σ : zM} {a b c bw n : Nat} {q : sPly} {u : Nat → Nat → Nat} {g D : Nat → Nat} {v : Value} (ha : (kd a).1 = 2) (ha1 : kd (a + 1) = (11, 6)) (hc : (kd c).1 = 4) (hb : (kd b).1 = 1) (hb1 : kd (b + 1) = (11, 80)) (hP : Py σ c q b) (hq : q.1 < 6) (hqf : q.2.2.2 < bw) (hB : Bx σ b bw u) (hu : ∀ w, w < bw → ∀ p, p < 10 → u w p ≤ 9) (hD : DrG σ a n g) (hPt : PtsOK n g) (hV : ByV E σ v bw D) : Ret E mX6_reckon (d + 2) [zr E 10, zr E c, zr E a, v] σ (qV fun τ => Fr (fun x y => x = 10 ∨ x = 11 ∨ x = 12) σ τ ∧ Shr τ bw q.2.2.2 (gS q u n g D)) := by
  have h8 := hB.2.1
  obtain ⟨s, hs⟩ : ∃ s, s = gS q u n g D := ⟨_, rfl⟩
  have hsl : ∀ w, w < bw → s w ≤ 87 := fun w hw => by rw [hs]; exact gS_le hPt.1 hPt.2.1 (fun i hi => (hPt.2.2 i hi).1) (hu w hw)
  have hsm : ∀ k, k ≤ bw → fsum s k ≤ 87 * k := fun k hk => fsum_bd k (fun i hi => hsl i (by omega))
  have hcn : c ≠ 10 ∧ c ≠ 11 ∧ c ≠ 12 := ⟨by rintro rfl; exact absurd hc (by decide), by rintro rfl; exact absurd hc (by decide), by rintro rfl; exact absurd hc (by decide)⟩
  have han : a ≠ 10 ∧ a ≠ 11 ∧ a ≠ 12 := ⟨by rintro rfl; exact absurd ha (by decide), by rintro rfl; exact absurd ha (by decide), by rintro rfl; exact absurd ha (by decide)⟩
  have han1 : a + 1 ≠ 10 ∧ a + 1 ≠ 11 ∧ a + 1 ≠ 12 := by
    refine ⟨?_, ?_, ?_⟩ <;> intro z <;> rw [z] at ha1 <;> exact absurd ha1 (by decide)
  have hbn : b ≠ 10 ∧ b ≠ 11 ∧ b ≠ 12 := ⟨by rintro rfl; exact absurd hb (by decide), by rintro rfl; exact absurd hb (by decide), by rintro rfl; exact absurd hb (by decide)⟩
  have hbn1 : b + 1 ≠ 10 ∧ b + 1 ≠ 11 ∧ b + 1 ≠ 12 := by
    refine ⟨?_, ?_, ?_⟩ <;> intro z <;> rw [z] at hb1 <;> exact absurd hb1 (by decide)
  have hcl : ∀ x, (kd x).1 = 4 → x + 1 ≠ 10 ∧ x + 1 ≠ 11 ∧ x + 1 ≠ 12 := by
    intro x hx
    refine ⟨?_, ?_, ?_⟩ <;> intro z
    · rw [show x = 9 by omega] at hx; exact absurd hx (by decide)
    · rw [show x = 10 by omega] at hx; exact absurd hx (by decide)
    · rw [show x = 11 by omega] at hx; exact absurd hx (by decide)
  rw [← hs]
  have s99 : ∀ τ, Fr (fun x y => x = 10 ∨ x = 11 ∨ x = 12) σ τ → gi τ 10 2 = nI bw → (∀ w, w < bw → gi τ 11 w = nI (s w)) → ∀ y5 y6 : Option Value, At E mX6_reckon (d + 2) (qV fun τ => Fr (fun x y => x = 10 ∨ x = 11 ∨ x = 12) σ τ ∧ Shr τ bw q.2.2.2 s) 99 [some (zr E 10), some (zr E c), some (zr E a), some v, some (.int (nI (fsum s bw))), y5, y6] [.int (nI (hG s bw q.2.2.2)), zr E 10] τ := by
    intro τ hF hw hv y5 y6
    refine pX6_38 102 rfl dX6_reckon_99 rfl (by first | assumption | rfl) ?_
    refine z_aload_n 103 dX6_reckon_102 rfl rfl ?_
    refine z_iload 105 dX6_reckon_103 rfl rfl ?_
    refine z_cVV1 108 (tX6_share (bw := bw) (fav := q.2.2.2) (s := s) h8 hqf ((gi_s2 _ _ (by omega)).trans hw) (gi_s1 _ _ _ _) (fun w hw' => ⟨(gi_s2 _ _ (by omega)).trans (hv w hw'), hsl w hw'⟩)) kX6_share dX6_reckon_105 rfl lX6_41 (by first | assumption | rfl) (Nat.le_of_ble_eq_true rfl) ?_
    rintro τ1 ⟨hF1, hv1⟩
    refine z_rv dX6_reckon_108 rfl ?_
    exact ⟨(hF.si _ (Or.inl rfl)).tr hF1 (fun _ _ h => h) (by intros; omega), (hF1.gi (by omega)).trans ((gi_s2 _ _ (by omega)).trans hw), (hF1.gi (by omega)).trans (gi_s1 _ _ _ _), hv1⟩
  have loop : ∀ i, i ≤ bw → ∀ τ, Fr (fun x y => x = 10 ∨ x = 11 ∨ x = 12) σ τ → gi τ 10 2 = nI bw → (∀ w, w < i → gi τ 11 w = nI (s w)) → At E mX6_reckon (d + 2) (qV fun τ => Fr (fun x y => x = 10 ∨ x = 11 ∨ x = 12) σ τ ∧ Shr τ bw q.2.2.2 s) 20 [some (zr E 10), some (zr E c), some (zr E a), some v, some (.int (nI (fsum s i))), some (.int (nI (amx s i))), some (.int (nI i))] [] τ := by
    refine z_up (fun i hi ih τ hF hw hv => ?_)
    have hPT : Py τ c q b := hP.fr hF (by intros; omega)
    have hBT : Bx τ b bw u := hB.fr hF (by intros; omega) (by intros; omega)
    have hDT : DrG τ a n g := hD.fr hF (by intros; omega) (by intros; omega)
    have hVT : ByV E τ v bw D := hV.fr hF (fun x j hx => by have := hcl x hx; omega)
    by_cases hib : i = bw
    · subst hib
      have hal := hsm i (Nat.le_refl _)
      refine z_iload 22 dX6_reckon_20 rfl rfl ?_
      refine z_aload_n 23 dX6_reckon_22 rfl rfl ?_
      refine gX6_18 26 rfl dX6_reckon_23 rfl (by first | assumption | rfl) ?_
      rw [hw]
      refine z_icmp_ge 84 29 dX6_reckon_26 (by decide) rfl (fun h26 => ?_) (fun h26 => ?_)
      · (try rw [nI_leI (by omega) (by omega)] at h26)
        refine z_aload_n 85 dX6_reckon_84 rfl rfl ?_
        refine z_iload 87 dX6_reckon_85 rfl rfl ?_
        refine z_if_ne 97 90 dX6_reckon_87 (by decide) rfl (fun h87 => ?_) (fun h87 => ?_)
        · (try rw [nI_eq0 (by omega)] at h87)
          have hgg : hG s i q.2.2.2 = amx s i := if_neg h87
          refine z_iload 99 dX6_reckon_97 rfl rfl ?_
          have := s99 τ hF hw hv (some (.int (nI (amx s i)))) (some (.int (nI i)))
          rw [hgg] at this
          exact this
        · (try rw [nI_eq0 (by omega)] at h87)
          have hgg : hG s i q.2.2.2 = q.2.2.2 := if_pos h87
          refine z_aload_n 91 dX6_reckon_90 rfl rfl ?_
          refine gX6_35 94 rfl dX6_reckon_91 rfl (by first | assumption | rfl) ?_
          rw [hPT.2.2.2.1]
          refine z_goto 99 dX6_reckon_94 rfl ?_
          have := s99 τ hF hw hv (some (.int (nI (amx s i)))) (some (.int (nI i)))
          rw [hgg] at this
          exact this
      · (try rw [nI_leI (by omega) (by omega)] at h26)
        omega
    · have hib : i < bw := by omega
      have hsi : gS q u n g D i = s i := by rw [hs]
      have hsl1 := hsl i hib
      have ham : amx s i ≤ i := by
        rcases Nat.eq_zero_or_pos i with h0 | h0
        · rw [h0]; exact Nat.le_refl _
        · exact Nat.le_of_lt (amx_spec s i h0).1
      have hsl2 := hsl (amx s i) (by omega)
      rcases hVT' : hVT with hn | hn
      all_goals
        have hg1 : ∀ k, k ≤ i → gi (si τ 11 i (nI (s i))) 11 k = nI (s k) := fun k hk => by
          rw [gi_si]
          by_cases hki : k = i
          · rw [if_pos ⟨rfl, hki⟩, hki]
          · rw [if_neg (fun z => hki z.2)]; exact hv k (by omega)
      · obtain ⟨rfl, hn0⟩ := hn
        refine z_iload 22 dX6_reckon_20 rfl rfl ?_
        refine z_aload_n 23 dX6_reckon_22 rfl rfl ?_
        refine gX6_18 26 rfl dX6_reckon_23 rfl (by first | assumption | rfl) ?_
        rw [hw]
        refine z_icmp_ge 84 29 dX6_reckon_26 (by decide) rfl (fun h26 => ?_) (fun h26 => ?_)
        · (try rw [nI_leI (by omega) (by omega)] at h26)
          omega
        · (try rw [nI_leI (by omega) (by omega)] at h26)
          refine z_aload_n 30 dX6_reckon_29 rfl rfl ?_
          refine gX6_9 33 rfl dX6_reckon_30 rfl (by first | assumption | rfl) ?_
          refine z_iload 35 dX6_reckon_33 rfl rfl ?_
          refine z_aload_n 36 dX6_reckon_35 rfl rfl ?_
          refine z_aload_n 37 dX6_reckon_36 rfl rfl ?_
          refine z_aload_n 38 dX6_reckon_37 rfl rfl ?_
          refine z_aload_nN 39 dX6_reckon_38 rfl rfl ?_
          refine z_iload 41 dX6_reckon_39 rfl rfl ?_
          refine z_cVI4 44 (tX6_sumOf ha ha1 hc hb hb1 hPT hq (show q.2.2.2 < 8 by omega) hBT hib (hu i hib) hDT hPt hVT) kX6_sumOf dX6_reckon_41 rfl lX6_31 (by first | assumption | rfl) (Nat.le_of_ble_eq_true rfl) ?_
          rintro _ _ ⟨e1, e2⟩
          replace e1 := e1.symm
          replace e2 := e2.symm
          subst e1
          subst e2
          rw [hsi]
          refine z_iastn 45 dX6_reckon_44 rfl (by first | assumption | rfl) (by omega) ?_
          refine z_iload 47 dX6_reckon_45 rfl rfl ?_
          refine z_aload_n 48 dX6_reckon_47 rfl rfl ?_
          refine gX6_9 51 rfl dX6_reckon_48 rfl (by first | assumption | rfl) ?_
          refine z_iload 53 dX6_reckon_51 rfl rfl ?_
          refine z_ialdn 54 dX6_reckon_53 rfl (by first | assumption | rfl) (by omega) ?_
          rw [hg1 i (Nat.le_refl _)]
          refine z_iadd 55 dX6_reckon_54 rfl ?_
          rw [nI_add]
          refine zs_istore_4_7 57 rfl dX6_reckon_55 rfl rfl ?_
          refine z_aload_n 58 dX6_reckon_57 rfl rfl ?_
          refine gX6_9 61 rfl dX6_reckon_58 rfl (by first | assumption | rfl) ?_
          refine z_iload 63 dX6_reckon_61 rfl rfl ?_
          refine z_ialdn 64 dX6_reckon_63 rfl (by first | assumption | rfl) (by omega) ?_
          refine z_aload_n 65 dX6_reckon_64 rfl rfl ?_
          refine gX6_9 68 rfl dX6_reckon_65 rfl (by first | assumption | rfl) ?_
          refine z_iload 70 dX6_reckon_68 rfl rfl ?_
          refine z_ialdn 71 dX6_reckon_70 rfl (by first | assumption | rfl) (by omega) ?_
          rw [hg1 i (Nat.le_refl _), hg1 _ ham]
          refine z_icmp_le 78 74 dX6_reckon_71 (by decide) rfl (fun h71 => ?_) (fun h71 => ?_)
          · (try rw [nI_leI (by omega) (by omega)] at h71)
            have hax : amx s (i + 1) = amx s i := by rw [amx, if_neg (by omega)]
            refine zs_iinc_6_7_1 81 rfl dX6_reckon_78 rfl rfl ?_
            rw [nI_add]
            refine z_goto 20 dX6_reckon_81 rfl ?_
            have := ih (i + 1) (by omega) (by omega) _ (hF.si (nI (s i)) (a := 11) (j := i) (Or.inr (Or.inl rfl))) ((gi_s2 _ _ (by omega)).trans hw) (fun w hw' => hg1 w (by omega))
            rw [hax] at this
            exact this
          · (try rw [nI_leI (by omega) (by omega)] at h71)
            have hax : amx s (i + 1) = i := by rw [amx, if_pos (by omega)]
            refine z_iload 76 dX6_reckon_74 rfl rfl ?_
            refine zs_istore_5_7 78 rfl dX6_reckon_76 rfl rfl ?_
            refine zs_iinc_6_7_1 81 rfl dX6_reckon_78 rfl rfl ?_
            rw [nI_add]
            refine z_goto 20 dX6_reckon_81 rfl ?_
            have := ih (i + 1) (by omega) (by omega) _ (hF.si (nI (s i)) (a := 11) (j := i) (Or.inr (Or.inl rfl))) ((gi_s2 _ _ (by omega)).trans hw) (fun w hw' => hg1 w (by omega))
            rw [hax] at this
            exact this
      · obtain ⟨c2, rfl, hn0⟩ := hn
        refine z_iload 22 dX6_reckon_20 rfl rfl ?_
        refine z_aload_n 23 dX6_reckon_22 rfl rfl ?_
        refine gX6_18 26 rfl dX6_reckon_23 rfl (by first | assumption | rfl) ?_
        rw [hw]
        refine z_icmp_ge 84 29 dX6_reckon_26 (by decide) rfl (fun h26 => ?_) (fun h26 => ?_)
        · (try rw [nI_leI (by omega) (by omega)] at h26)
          omega
        · (try rw [nI_leI (by omega) (by omega)] at h26)
          refine z_aload_n 30 dX6_reckon_29 rfl rfl ?_
          refine gX6_9 33 rfl dX6_reckon_30 rfl (by first | assumption | rfl) ?_
          refine z_iload 35 dX6_reckon_33 rfl rfl ?_
          refine z_aload_n 36 dX6_reckon_35 rfl rfl ?_
          refine z_aload_n 37 dX6_reckon_36 rfl rfl ?_
          refine z_aload_n 38 dX6_reckon_37 rfl rfl ?_
          refine z_aload_n 39 dX6_reckon_38 rfl rfl ?_
          refine z_iload 41 dX6_reckon_39 rfl rfl ?_
          refine z_cVI4 44 (tX6_sumOf ha ha1 hc hb hb1 hPT hq (show q.2.2.2 < 8 by omega) hBT hib (hu i hib) hDT hPt hVT) kX6_sumOf dX6_reckon_41 rfl lX6_31 (by first | assumption | rfl) (Nat.le_of_ble_eq_true rfl) ?_
          rintro _ _ ⟨e1, e2⟩
          replace e1 := e1.symm
          replace e2 := e2.symm
          subst e1
          subst e2
          rw [hsi]
          refine z_iastn 45 dX6_reckon_44 rfl (by first | assumption | rfl) (by omega) ?_
          refine z_iload 47 dX6_reckon_45 rfl rfl ?_
          refine z_aload_n 48 dX6_reckon_47 rfl rfl ?_
          refine gX6_9 51 rfl dX6_reckon_48 rfl (by first | assumption | rfl) ?_
          refine z_iload 53 dX6_reckon_51 rfl rfl ?_
          refine z_ialdn 54 dX6_reckon_53 rfl (by first | assumption | rfl) (by omega) ?_
          rw [hg1 i (Nat.le_refl _)]
          refine z_iadd 55 dX6_reckon_54 rfl ?_
          rw [nI_add]
          refine zs_istore_4_7 57 rfl dX6_reckon_55 rfl rfl ?_
          refine z_aload_n 58 dX6_reckon_57 rfl rfl ?_
          refine gX6_9 61 rfl dX6_reckon_58 rfl (by first | assumption | rfl) ?_
          refine z_iload 63 dX6_reckon_61 rfl rfl ?_
          refine z_ialdn 64 dX6_reckon_63 rfl (by first | assumption | rfl) (by omega) ?_
          refine z_aload_n 65 dX6_reckon_64 rfl rfl ?_
          refine gX6_9 68 rfl dX6_reckon_65 rfl (by first | assumption | rfl) ?_
          refine z_iload 70 dX6_reckon_68 rfl rfl ?_
          refine z_ialdn 71 dX6_reckon_70 rfl (by first | assumption | rfl) (by omega) ?_
          rw [hg1 i (Nat.le_refl _), hg1 _ ham]
          refine z_icmp_le 78 74 dX6_reckon_71 (by decide) rfl (fun h71 => ?_) (fun h71 => ?_)
          · (try rw [nI_leI (by omega) (by omega)] at h71)
            have hax : amx s (i + 1) = amx s i := by rw [amx, if_neg (by omega)]
            refine zs_iinc_6_7_1 81 rfl dX6_reckon_78 rfl rfl ?_
            rw [nI_add]
            refine z_goto 20 dX6_reckon_81 rfl ?_
            have := ih (i + 1) (by omega) (by omega) _ (hF.si (nI (s i)) (a := 11) (j := i) (Or.inr (Or.inl rfl))) ((gi_s2 _ _ (by omega)).trans hw) (fun w hw' => hg1 w (by omega))
            rw [hax] at this
            exact this
          · (try rw [nI_leI (by omega) (by omega)] at h71)
            have hax : amx s (i + 1) = i := by rw [amx, if_pos (by omega)]
            refine z_iload 76 dX6_reckon_74 rfl rfl ?_
            refine zs_istore_5_7 78 rfl dX6_reckon_76 rfl rfl ?_
            refine zs_iinc_6_7_1 81 rfl dX6_reckon_78 rfl rfl ?_
            rw [nI_add]
            refine z_goto 20 dX6_reckon_81 rfl ?_
            have := ih (i + 1) (by omega) (by omega) _ (hF.si (nI (s i)) (a := 11) (j := i) (Or.inr (Or.inl rfl))) ((gi_s2 _ _ (by omega)).trans hw) (fun w hw' => hg1 w (by omega))
            rw [hax] at this
            exact this
  have hAt : At E mX6_reckon (d + 2) (qV fun τ => Fr (fun x y => x = 10 ∨ x = 11 ∨ x = 12) σ τ ∧ Shr τ bw q.2.2.2 s) 0 [some (zr E 10), some (zr E c), some (zr E a), some v, none, none, none] [] σ := by
    refine z_aload_n 1 dX6_reckon_0 rfl rfl ?_
    refine z_aload_n 2 dX6_reckon_1 rfl rfl ?_
    refine gX6_22 5 rfl dX6_reckon_2 rfl (by first | assumption | rfl) ?_
    rw [hP.2.2.2.2]
    refine gX6_28 8 rfl dX6_reckon_5 rfl (by first | assumption | rfl) ?_
    rw [hB.1]
    refine pX6_18 11 rfl dX6_reckon_8 rfl (by first | assumption | rfl) ?_
    refine z_iconst 12 (v := nI 0) dX6_reckon_11 rfl rfl ?_
    refine zs_istore_4_7 14 rfl dX6_reckon_12 rfl (zck_of (i := 3) rfl hV.cat) ?_
    refine z_iconst 15 (v := nI 0) dX6_reckon_14 rfl rfl ?_
    refine zs_istore_5_7 17 rfl dX6_reckon_15 rfl rfl ?_
    refine z_iconst 18 (v := nI 0) dX6_reckon_17 rfl rfl ?_
    refine zs_istore_6_7 20 rfl dX6_reckon_18 rfl rfl ?_
    exact loop 0 (Nat.zero_le _) _ (Fr.rf.si _ (Or.inl rfl)) (gi_s1 _ _ _ _) (fun w hw => absurd hw (Nat.not_lt_zero w))
  rcases hV with ⟨rfl, hV0⟩ | ⟨c2, rfl, hk2, hk3, hV2⟩
  · exact Ret.of _ (by decide +kernel) (Nat.le_of_ble_eq_true rfl) rfl hAt
  · exact Ret.of _ (by decide +kernel) (Nat.le_of_ble_eq_true rfl) rfl hAt
