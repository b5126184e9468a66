/-! a fraction told -/
def eI (i A B : Nat) : Prop := A < 2 ^ 40 ∧ B < 2 ^ 40 ∧ (i = 0 ∨ (B < A ∧ A * B < 2 ^ (81 - i)))
theorem eI_step {i A B : Nat} (h : eI i A B) (hB : B ≠ 0) (hi : i < 100) : eI (i + 1) B (A % B) := by
  obtain ⟨h1, h2, h3⟩ := h
  have hlt : A % B < B := Nat.mod_lt _ (by omega)
  refine ⟨h2, by omega, Or.inr ⟨hlt, ?_⟩⟩
  rcases h3 with rfl | ⟨h4, h5⟩
  · have : B * (A % B) < 2 ^ 40 * 2 ^ 40 := Nat.mul_lt_mul'' h2 (by omega)
    rw [← Nat.pow_add] at this
    exact this
  · have hi80 : i ≤ 80 := by
      rcases Nat.lt_or_ge 80 i with q | q
      · rw [show 81 - i = 0 by omega] at h5
        have h6 : 1 ≤ A * B := Nat.mul_pos (by omega) (by omega)
        omega
      · exact q
    have hm : 2 * (A % B) ≤ A := by
      have e := Nat.div_add_mod A B
      have hd : 1 ≤ A / B := Nat.div_pos (by omega) (by omega)
      have : B * 1 ≤ B * (A / B) := Nat.mul_le_mul_left B hd
      omega
    have h7 : 2 * (B * (A % B)) ≤ A * B := by
      have := Nat.mul_le_mul_left B hm
      rw [Nat.mul_comm A B]
      calc 2 * (B * (A % B)) = B * (2 * (A % B)) := by rw [Nat.mul_left_comm]
        _ ≤ B * A := this
    rw [show 81 - i = (81 - (i + 1)) + 1 by omega, Nat.pow_succ] at h5
    omega
theorem eI_end {A B : Nat} (h : eI 100 A B) : B = 0 := by
  obtain ⟨h1, h2, h3⟩ := h
  rcases h3 with h | ⟨h4, h5⟩
  · exact absurd h (by decide)
  · rcases Nat.eq_zero_or_pos B with q | q
    · exact q
    · have h6 : 1 ≤ A * B := Nat.mul_pos (by omega) q
      have h7 : A * B < 1 := h5
      omega
def fU (u l : Nat) : Int64 := lN (u / Nat.gcd u l)
def fL (u l : Nat) : Int64 := lN (l / Nat.gcd u l)
set_option maxRecDepth 20000 in
theorem tX0_tell {E : zE} {d : Nat} {σ : zM} {u l : Nat} (hu : u < 2 ^ 40) (hl : l < 2 ^ 40) (h0 : 0 < l) : Ret E mX0_tell d [zr E 6, .long (lN u), .long (lN l)] σ (qI fun x τ => x = nI 1 ∧ τ = sl (sl σ 6 3 (fU u l)) 6 4 (fL u l)) := by
  have hG0 : 0 < Nat.gcd u l := Nat.gcd_pos_of_pos_right u h0
  have hGl : Nat.gcd u l ≤ l := Nat.le_of_dvd h0 (Nat.gcd_dvd_right u l)
  refine Ret.of [some (zr E 6), some (.long (lN u)), none, some (.long (lN l)), none, none, none, none, none, none, none, none] (by decide +kernel) (Nat.le_of_ble_eq_true rfl) rfl ?_
  have s44 : ∀ y : Option Value, At E mX0_tell d (qI fun x τ => x = nI 1 ∧ τ = sl (sl σ 6 3 (fU u l)) 6 4 (fL u l)) 44 [some (zr E 6), some (.long (lN u)), none, some (.long (lN l)), none, some (.long (lN (Nat.gcd u l))), none, none, none, y, none, none] [] σ := by
    intro y
    have hne : ¬ lN (Nat.gcd u l) = 0 := fun z => by
      have := (pk_lEQ (show Nat.gcd u l < 2 ^ 63 by omega) (show 0 < 2 ^ 63 by decide)).mp z
      omega
    refine z_aload_n 45 dX0_tell_44 rfl rfl ?_
    refine z_lload 47 dX0_tell_45 rfl rfl ?_
    refine z_lconst 48 (v := 0) dX0_tell_47 rfl rfl ?_
    refine z_lcmp 49 dX0_tell_48 rfl ?_
    refine z_if_ne 56 52 dX0_tell_49 (by decide) rfl (fun h49 => ?_) (fun h49 => ?_)
    · rw [lg_cmp_eq] at h49
      refine z_lload_n 57 dX0_tell_56 rfl rfl ?_
      refine z_lload 59 dX0_tell_57 rfl rfl ?_
      refine z_ldiv 60 dX0_tell_59 rfl hne ?_
      rw [pk_lDiv (by omega) hG0 (by omega)]
      refine pX0_26 63 rfl dX0_tell_60 rfl (by first | assumption | rfl) ?_
      refine z_aload_n 64 dX0_tell_63 rfl rfl ?_
      refine z_lload 66 dX0_tell_64 rfl rfl ?_
      refine z_lconst 67 (v := 0) dX0_tell_66 rfl rfl ?_
      refine z_lcmp 68 dX0_tell_67 rfl ?_
      refine z_if_ne 75 71 dX0_tell_68 (by decide) rfl (fun h68 => ?_) (fun h68 => ?_)
      · rw [lg_cmp_eq] at h68
        refine z_lload_n 76 dX0_tell_75 rfl rfl ?_
        refine z_lload 78 dX0_tell_76 rfl rfl ?_
        refine z_ldiv 79 dX0_tell_78 rfl hne ?_
        rw [pk_lDiv (by omega) hG0 (by omega)]
        refine pX0_15 82 rfl dX0_tell_79 rfl (by first | assumption | rfl) ?_
        refine z_iconst 83 (v := nI 1) dX0_tell_82 rfl rfl ?_
        refine z_ri dX0_tell_83 rfl ?_
        exact ⟨rfl, rfl⟩
      · rw [lg_cmp_eq] at h68
        exact absurd h68 hne
    · rw [lg_cmp_eq] at h49
      exact absurd h49 hne
  have loop : ∀ i, i ≤ 100 → ∀ A B, eI i A B → Nat.gcd A B = Nat.gcd u l → At E mX0_tell d (qI fun x τ => x = nI 1 ∧ τ = sl (sl σ 6 3 (fU u l)) 6 4 (fL u l)) 9 [some (zr E 6), some (.long (lN u)), none, some (.long (lN l)), none, some (.long (lN A)), none, some (.long (lN B)), none, some (.int (nI i)), none, none] [] σ := by
    refine z_up (fun i hi ih A B hI hg => ?_)
    have hA := hI.1
    have hB := hI.2.1
    by_cases hB0 : B = 0
    · subst hB0
      rw [Nat.gcd_zero_right] at hg
      subst hg
      refine z_iload 11 dX0_tell_9 rfl rfl ?_
      refine z_bipush 13 (v := nI 100) dX0_tell_11 rfl rfl ?_
      refine z_icmp_ge 44 16 dX0_tell_13 (by decide) rfl (fun h13 => ?_) (fun h13 => ?_)
      · (try rw [nI_leI (by omega) (by omega)] at h13)
        exact zf_7_12 (s44 _)
      · (try rw [nI_leI (by omega) (by omega)] at h13)
        refine z_lload 18 dX0_tell_16 rfl rfl ?_
        refine z_lconst 19 (v := 0) dX0_tell_18 rfl rfl ?_
        refine z_lcmp 20 dX0_tell_19 rfl ?_
        refine z_if_eq 44 23 dX0_tell_20 (by decide) rfl (fun h20 => ?_) (fun h20 => ?_)
        · rw [lg_cmp_eq] at h20
          exact zf_7_12 (s44 _)
        · rw [lg_cmp_eq] at h20
          exact absurd rfl h20
    · by_cases hi100 : i = 100
      · subst hi100
        exact absurd (eI_end hI) hB0
      · have hst := eI_step hI hB0 (by omega)
        have hBne : ¬ lN B = 0 := fun z => hB0 ((pk_lEQ (show B < 2 ^ 63 by omega) (show 0 < 2 ^ 63 by decide)).mp z)
        have hg2 : Nat.gcd B (A % B) = Nat.gcd u l := by rw [← hg, Nat.gcd_comm B, ← Nat.gcd_rec, Nat.gcd_comm]
        refine z_iload 11 dX0_tell_9 rfl rfl ?_
        refine z_bipush 13 (v := nI 100) dX0_tell_11 rfl rfl ?_
        refine z_icmp_ge 44 16 dX0_tell_13 (by decide) rfl (fun h13 => ?_) (fun h13 => ?_)
        · (try rw [nI_leI (by omega) (by omega)] at h13)
          omega
        · (try rw [nI_leI (by omega) (by omega)] at h13)
          refine z_lload 18 dX0_tell_16 rfl rfl ?_
          refine z_lconst 19 (v := 0) dX0_tell_18 rfl rfl ?_
          refine z_lcmp 20 dX0_tell_19 rfl ?_
          refine z_if_eq 44 23 dX0_tell_20 (by decide) rfl (fun h20 => ?_) (fun h20 => ?_)
          · rw [lg_cmp_eq] at h20
            exact absurd h20 hBne
          · rw [lg_cmp_eq] at h20
            refine z_lload 25 dX0_tell_23 rfl rfl ?_
            refine z_lload 27 dX0_tell_25 rfl rfl ?_
            refine z_lrem 28 dX0_tell_27 rfl hBne ?_
            rw [pk_lRem (by omega) (by omega) (by omega)]
            refine zs_lstore_10_12 30 rfl dX0_tell_28 rfl rfl ?_
            refine z_lload 32 dX0_tell_30 rfl rfl ?_
            refine zs_lstore_5_12 34 rfl dX0_tell_32 rfl rfl ?_
            refine z_lload 36 dX0_tell_34 rfl rfl ?_
            refine zs_lstore_7_12 38 rfl dX0_tell_36 rfl rfl ?_
            refine zs_iinc_9_12_1 41 rfl dX0_tell_38 rfl rfl ?_
            rw [nI_add]
            refine z_goto 9 dX0_tell_41 rfl ?_
            exact zf_10_12 (ih (i + 1) (by omega) (by omega) B (A % B) hst hg2)
  refine z_lload_n 1 dX0_tell_0 rfl rfl ?_
  refine zs_lstore_5_12 3 rfl dX0_tell_1 rfl rfl ?_
  refine z_lload_n 4 dX0_tell_3 rfl rfl ?_
  refine zs_lstore_7_12 6 rfl dX0_tell_4 rfl rfl ?_
  refine z_iconst 7 (v := nI 0) dX0_tell_6 rfl rfl ?_
  refine zs_istore_9_12 9 rfl dX0_tell_7 rfl rfl ?_
  exact loop 0 (by omega) u l ⟨hu, hl, Or.inl rfl⟩ rfl
set_option maxRecDepth 20000 in
theorem tX10_part {E : zE} {d : Nat} {σ : zM} {u l : Nat} {v : Int32} (hu : u < 2 ^ 40) (hl : l < 2 ^ 40) (h0 : 0 < l) : Ret E mX10_part d [zr E 102, .long (lN u), .long (lN l), .int v] σ (qI fun x τ => x = v ∧ τ = sl (sl σ 102 3 (fU u l)) 102 4 (fL u l)) := by
  have hG0 : 0 < Nat.gcd u l := Nat.gcd_pos_of_pos_right u h0
  have hGl : Nat.gcd u l ≤ l := Nat.le_of_dvd h0 (Nat.gcd_dvd_right u l)
  refine Ret.of [some (zr E 102), some (.long (lN u)), none, some (.long (lN l)), none, some (.int v), none, none, none, none, none, none] (by decide +kernel) (Nat.le_of_ble_eq_true rfl) rfl ?_
  have hne : ¬ lN (Nat.gcd u l) = 0 := fun z => by
    have := (pk_lEQ (show Nat.gcd u l < 2 ^ 63 by omega) (show 0 < 2 ^ 63 by decide)).mp z
    omega
  have loop : ∀ i, i ≤ 100 → ∀ A B, eI i A B → Nat.gcd A B = Nat.gcd u l → At E mX10_part d (qI fun x τ => x = v ∧ τ = sl (sl σ 102 3 (fU u l)) 102 4 (fL u l)) 6 [some (zr E 102), some (.long (lN u)), none, some (.long (lN l)), none, some (.int v), some (.long (lN A)), none, some (.long (lN B)), none, none, none] [] σ := by
    refine z_up (fun i hi ih A B hI hg => ?_)
    have hA := hI.1
    have hB := hI.2.1
    by_cases hB0 : B = 0
    · subst hB0
      rw [Nat.gcd_zero_right] at hg
      subst hg
      refine z_lload 8 dX10_part_6 rfl rfl ?_
      refine z_lconst 9 (v := 0) dX10_part_8 rfl rfl ?_
      refine z_lcmp 10 dX10_part_9 rfl ?_
      refine z_if_eq 31 13 dX10_part_10 (by decide) rfl (fun h10 => ?_) (fun h10 => ?_)
      · rw [lg_cmp_eq] at h10
        refine z_aload_n 32 dX10_part_31 rfl rfl ?_
        refine z_lload_n 33 dX10_part_32 rfl rfl ?_
        refine z_lload 35 dX10_part_33 rfl rfl ?_
        refine z_ldiv 36 dX10_part_35 rfl hne ?_
        rw [pk_lDiv (by omega) hG0 (by omega)]
        refine pX10_88 39 rfl dX10_part_36 rfl ?_
        refine z_aload_n 40 dX10_part_39 rfl rfl ?_
        refine z_lload_n 41 dX10_part_40 rfl rfl ?_
        refine z_lload 43 dX10_part_41 rfl rfl ?_
        refine z_ldiv 44 dX10_part_43 rfl hne ?_
        rw [pk_lDiv (by omega) hG0 (by omega)]
        refine pX10_13 47 rfl dX10_part_44 rfl ?_
        refine z_iload 49 dX10_part_47 rfl rfl ?_
        refine z_ri dX10_part_49 rfl ?_
        exact ⟨rfl, rfl⟩
      · rw [lg_cmp_eq] at h10
        exact absurd rfl h10
    · by_cases hi100 : i = 100
      · subst hi100
        exact absurd (eI_end hI) hB0
      · have hst := eI_step hI hB0 (by omega)
        have hBne : ¬ lN B = 0 := fun z => hB0 ((pk_lEQ (show B < 2 ^ 63 by omega) (show 0 < 2 ^ 63 by decide)).mp z)
        have hg2 : Nat.gcd B (A % B) = Nat.gcd u l := by rw [← hg, Nat.gcd_comm B, ← Nat.gcd_rec, Nat.gcd_comm]
        refine z_lload 8 dX10_part_6 rfl rfl ?_
        refine z_lconst 9 (v := 0) dX10_part_8 rfl rfl ?_
        refine z_lcmp 10 dX10_part_9 rfl ?_
        refine z_if_eq 31 13 dX10_part_10 (by decide) rfl (fun h10 => ?_) (fun h10 => ?_)
        · rw [lg_cmp_eq] at h10
          exact absurd h10 hBne
        · rw [lg_cmp_eq] at h10
          refine z_lload 15 dX10_part_13 rfl rfl ?_
          refine z_lload 17 dX10_part_15 rfl rfl ?_
          refine z_lrem 18 dX10_part_17 rfl hBne ?_
          rw [pk_lRem (by omega) (by omega) (by omega)]
          refine zs_lstore_10_12 20 rfl dX10_part_18 rfl rfl ?_
          refine z_lload 22 dX10_part_20 rfl rfl ?_
          refine zs_lstore_6_12 24 rfl dX10_part_22 rfl rfl ?_
          refine z_lload 26 dX10_part_24 rfl rfl ?_
          refine zs_lstore_8_12 28 rfl dX10_part_26 rfl rfl ?_
          refine z_goto 6 dX10_part_28 rfl ?_
          exact zf_10_12 (ih (i + 1) (by omega) (by omega) B (A % B) hst hg2)
  refine z_lload_n 1 dX10_part_0 rfl rfl ?_
  refine zs_lstore_6_12 3 rfl dX10_part_1 rfl rfl ?_
  refine z_lload_n 4 dX10_part_3 rfl rfl ?_
  refine zs_lstore_8_12 6 rfl dX10_part_4 rfl rfl ?_
  exact loop 0 (by omega) u l ⟨hu, hl, Or.inl rfl⟩ rfl
def sTell (S : sS) (u l : Nat) (x : Int32) : Int32 × sS := (x, setA S (aTell (sA S) (fU u l) (fL u l)))
theorem qxt {p : Int32 × sS} {S : sS} {σ0 σ : zM} {u l : Nat} {x : Int32} (hW : WF S) (e : p = sTell S u l x) (hX : RX S σ) (hF : Fr xAll σ0 σ) : x = p.1 ∧ RX p.2 (sl (sl σ 6 3 (fU u l)) 6 4 (fL u l)) ∧ Fr xAll σ0 (sl (sl σ 6 3 (fU u l)) 6 4 (fL u l)) := by
  rw [e]
  have hf : Fr (fun a _ => a = 6 ∨ a = 7) σ (sl (sl σ 6 3 (fU u l)) 6 4 (fL u l)) := (Fr.rf.sl _ (Or.inl rfl)).sl _ (Or.inl rfl)
  obtain ⟨h1, h2, h3, h4, h5⟩ := hX.2.2.2.2.2
  exact ⟨rfl, hX.A hW hf ⟨h1, h2, h3, (gl_s2 _ _ (by omega)).trans (gl_s1 _ _ _ _), gl_s1 _ _ _ _⟩, hF.tr hf (fun _ _ h => h) (by intros; omega)⟩
theorem qmt {p : Int32 × sS} {S : sS} {σ0 σ : zM} {u l : Nat} {x : Int32} (hW : WF S) (e : p = sTell S u l x) (hX : RM S σ) (hF : Fr mAll σ0 σ) : x = p.1 ∧ RM p.2 (sl (sl σ 102 3 (fU u l)) 102 4 (fL u l)) ∧ Fr mAll σ0 (sl (sl σ 102 3 (fU u l)) 102 4 (fL u l)) := by
  rw [e]
  have hf : Fr (fun a j => a = 102 ∧ (j = 0 ∨ j = 2 ∨ j = 3 ∨ j = 4) ∨ a = 103) σ (sl (sl σ 102 3 (fU u l)) 102 4 (fL u l)) := (Fr.rf.sl _ (by omega)).sl _ (by omega)
  obtain ⟨h1, h2, h3, h4, h5⟩ := hX.2.2.2.2.2
  exact ⟨rfl, hX.A hW hf ⟨h1, h2, h3, (gl_s2 _ _ (by omega)).trans (gl_s1 _ _ _ _), gl_s1 _ _ _ _⟩, hF.tr hf (fun _ _ h => h) (by intros; omega)⟩
/-! what is asked -/
set_option maxRecDepth 20000 in
theorem tX9_asked {E : zE} {d : Nat} {σ : zM} {S : sS} (hX : RX S σ) : Ret E mX9_asked d [zr E 0] σ (qI fun x τ => x = (sA S).2.2.1 ∧ τ = σ) := by
  refine Ret.of [some (zr E 0)] (by decide +kernel) (Nat.le_of_ble_eq_true rfl) rfl ?_
  refine z_aload_n 1 dX9_asked_0 rfl rfl ?_
  refine gX9_39 4 rfl dX9_asked_1 rfl ?_
  refine gX9_371 7 rfl dX9_asked_4 rfl (by first | assumption | rfl) ?_
  refine z_ri dX9_asked_7 rfl ?_
  exact ⟨hX.2.2.2.2.2.2.2.1, rfl⟩
set_option maxRecDepth 20000 in
theorem tX10_asked {E : zE} {d : Nat} {σ : zM} {S : sS} (hX : RM S σ) : Ret E mX10_asked d [zr E 102] σ (qI fun x τ => x = (sA S).2.2.1 ∧ τ = σ) := by
  refine Ret.of [some (zr E 102)] (by decide +kernel) (Nat.le_of_ble_eq_true rfl) rfl ?_
  refine z_aload_n 1 dX10_asked_0 rfl rfl ?_
  refine gX10_85 4 rfl dX10_asked_1 rfl ?_
  refine z_ri dX10_asked_4 rfl ?_
  exact ⟨hX.2.2.2.2.2.2.2.1, rfl⟩
set_option maxRecDepth 20000 in
theorem tX9_upper {E : zE} {d : Nat} {σ : zM} {S : sS} (hX : RX S σ) : Ret E mX9_upper d [zr E 0] σ (qJ fun x τ => x = (sA S).2.2.2.1 ∧ τ = σ) := by
  refine Ret.of [some (zr E 0)] (by decide +kernel) (Nat.le_of_ble_eq_true rfl) rfl ?_
  refine z_aload_n 1 dX9_upper_0 rfl rfl ?_
  refine gX9_39 4 rfl dX9_upper_1 rfl ?_
  refine gX9_374 7 rfl dX9_upper_4 rfl (by first | assumption | rfl) ?_
  refine z_rl dX9_upper_7 rfl ?_
  exact ⟨hX.2.2.2.2.2.2.2.2.1, rfl⟩
set_option maxRecDepth 20000 in
theorem tX10_upper {E : zE} {d : Nat} {σ : zM} {S : sS} (hX : RM S σ) : Ret E mX10_upper d [zr E 102] σ (qJ fun x τ => x = (sA S).2.2.2.1 ∧ τ = σ) := by
  refine Ret.of [some (zr E 102)] (by decide +kernel) (Nat.le_of_ble_eq_true rfl) rfl ?_
  refine z_aload_n 1 dX10_upper_0 rfl rfl ?_
  refine gX10_88 4 rfl dX10_upper_1 rfl ?_
  refine z_rl dX10_upper_4 rfl ?_
  exact ⟨hX.2.2.2.2.2.2.2.2.1, rfl⟩
set_option maxRecDepth 20000 in
theorem tX9_lower {E : zE} {d : Nat} {σ : zM} {S : sS} (hX : RX S σ) : Ret E mX9_lower d [zr E 0] σ (qJ fun x τ => x = (sA S).2.2.2.2 ∧ τ = σ) := by
  refine Ret.of [some (zr E 0)] (by decide +kernel) (Nat.le_of_ble_eq_true rfl) rfl ?_
  refine z_aload_n 1 dX9_lower_0 rfl rfl ?_
  refine gX9_39 4 rfl dX9_lower_1 rfl ?_
  refine gX9_377 7 rfl dX9_lower_4 rfl (by first | assumption | rfl) ?_
  refine z_rl dX9_lower_7 rfl ?_
  exact ⟨hX.2.2.2.2.2.2.2.2.2, rfl⟩
set_option maxRecDepth 20000 in
theorem tX10_lower {E : zE} {d : Nat} {σ : zM} {S : sS} (hX : RM S σ) : Ret E mX10_lower d [zr E 102] σ (qJ fun x τ => x = (sA S).2.2.2.2 ∧ τ = σ) := by
  refine Ret.of [some (zr E 102)] (by decide +kernel) (Nat.le_of_ble_eq_true rfl) rfl ?_
  refine z_aload_n 1 dX10_lower_0 rfl rfl ?_
  refine gX10_13 4 rfl dX10_lower_1 rfl ?_
  refine z_rl dX10_lower_4 rfl ?_
  exact ⟨hX.2.2.2.2.2.2.2.2.2, rfl⟩
set_option maxRecDepth 20000 in
theorem tX9_finding {E : zE} {d : Nat} {σ : zM} {S : sS} (hX : RX S σ) : Ret E mX9_finding d [zr E 0] σ (qI fun x τ => x = (sA S).1 ∧ τ = σ) := by
  refine Ret.of [some (zr E 0)] (by decide +kernel) (Nat.le_of_ble_eq_true rfl) rfl ?_
  refine z_aload_n 1 dX9_finding_0 rfl rfl ?_
  refine gX9_39 4 rfl dX9_finding_1 rfl ?_
  refine gX9_387 7 rfl dX9_finding_4 rfl (by first | assumption | rfl) ?_
  refine z_ri dX9_finding_7 rfl ?_
  exact ⟨hX.2.2.2.2.2.1, rfl⟩
set_option maxRecDepth 20000 in
theorem tX10_finding {E : zE} {d : Nat} {σ : zM} {S : sS} (hX : RM S σ) : Ret E mX10_finding d [zr E 102] σ (qI fun x τ => x = (sA S).1 ∧ τ = σ) := by
  refine Ret.of [some (zr E 102)] (by decide +kernel) (Nat.le_of_ble_eq_true rfl) rfl ?_
  refine z_aload_n 1 dX10_finding_0 rfl rfl ?_
  refine gX10_81 4 rfl dX10_finding_1 rfl ?_
  refine z_ri dX10_finding_4 rfl ?_
  exact ⟨hX.2.2.2.2.2.1, rfl⟩
