/-! the reference's small methods -/
set_option maxRecDepth 20000 in
theorem tX10_in {E : zE} {d : Nat} {σ : zM} {v l h : Int32} : Ret E mX10_in d [.int v, .int l, .int h] σ (qI fun x τ => x = bI (decide (l ≤ v ∧ v ≤ h)) ∧ τ = σ) := by
  refine Ret.of [some (.int v), some (.int l), some (.int h)] (by decide +kernel) (Nat.le_of_ble_eq_true rfl) rfl ?_
  refine z_iload_n 1 dX10_in_0 rfl rfl ?_
  refine z_iload_n 2 dX10_in_1 rfl rfl ?_
  refine z_icmp_lt 14 5 dX10_in_2 (by decide) rfl (fun h2 => ?_) (fun h2 => ?_)
  · have q : ¬ (l ≤ v ∧ v ≤ h) := fun q => Int32.not_le.mpr h2 q.1
    refine z_iconst 15 (v := nI 0) dX10_in_14 rfl rfl ?_
    refine z_rz dX10_in_15 rfl (by first | exact Or.inl rfl | exact Or.inr rfl | exact bI_01 _ | assumption) ?_
    first | exact ⟨bI_t q, rfl⟩ | exact ⟨bI_f q, rfl⟩
  · refine z_iload_n 6 dX10_in_5 rfl rfl ?_
    refine z_iload_n 7 dX10_in_6 rfl rfl ?_
    refine z_icmp_gt 14 10 dX10_in_7 (by decide) rfl (fun h7 => ?_) (fun h7 => ?_)
    · have q : ¬ (l ≤ v ∧ v ≤ h) := fun q => Int32.not_le.mpr h7 q.2
      refine z_iconst 15 (v := nI 0) dX10_in_14 rfl rfl ?_
      refine z_rz dX10_in_15 rfl (by first | exact Or.inl rfl | exact Or.inr rfl | exact bI_01 _ | assumption) ?_
      first | exact ⟨bI_t q, rfl⟩ | exact ⟨bI_f q, rfl⟩
    · have q : l ≤ v ∧ v ≤ h := ⟨Int32.not_lt.mp h2, Int32.not_lt.mp h7⟩
      refine z_iconst 11 (v := nI 1) dX10_in_10 rfl rfl ?_
      refine z_goto 15 dX10_in_11 rfl ?_
      refine z_rz dX10_in_15 rfl (by first | exact Or.inl rfl | exact Or.inr rfl | exact bI_01 _ | assumption) ?_
      first | exact ⟨bI_t q, rfl⟩ | exact ⟨bI_f q, rfl⟩
/-- what is found: finding and findings -/
def mMt (σ : zM) (k : Nat) : zM := si (si σ 102 0 (nI k)) 103 k (gi σ 103 k + nI 1)
set_option maxRecDepth 20000 in
theorem tX10_meets {E : zE} {d : Nat} {σ : zM} {k : Nat} (hk : k < 6) : Ret E mX10_meets d [zr E 102, .int (nI k)] σ (qI fun x τ => x = -3 ∧ τ = mMt σ k) := by
  refine Ret.of [some (zr E 102), some (.int (nI k))] (by decide +kernel) (Nat.le_of_ble_eq_true rfl) rfl ?_
  refine z_aload_n 1 dX10_meets_0 rfl rfl ?_
  refine z_iload_n 2 dX10_meets_1 rfl rfl ?_
  refine pX10_81 5 rfl dX10_meets_2 rfl ?_
  refine z_aload_n 6 dX10_meets_5 rfl rfl ?_
  refine gX10_7 9 rfl dX10_meets_6 rfl ?_
  refine z_iload_n 10 dX10_meets_9 rfl rfl ?_
  refine z_dup2 11 dX10_meets_10 rfl rfl rfl ?_
  refine z_ialdn 12 dX10_meets_11 rfl (by first | assumption | rfl) (by omega) ?_
  refine z_iconst 13 (v := nI 1) dX10_meets_12 rfl rfl ?_
  refine z_iadd 14 dX10_meets_13 rfl ?_
  refine z_iastn 15 dX10_meets_14 rfl (by first | assumption | rfl) (by omega) ?_
  refine z_bipush 17 (v := (-3)) dX10_meets_15 rfl rfl ?_
  refine z_ri dX10_meets_17 rfl ?_
  refine ⟨rfl, ?_⟩
  rw [gi_s2 _ _ (by omega)]
  rfl
set_option maxRecDepth 20000 in
theorem tX10_ask {E : zE} {d : Nat} {σ : zM} {v w : Int32} : Ret E mX10_ask d [zr E 102, .int v, .int w] σ (qI fun x τ => x = w ∧ τ = si σ 102 2 v) := by
  refine Ret.of [some (zr E 102), some (.int v), some (.int w)] (by decide +kernel) (Nat.le_of_ble_eq_true rfl) rfl ?_
  refine z_aload_n 1 dX10_ask_0 rfl rfl ?_
  refine z_iload_n 2 dX10_ask_1 rfl rfl ?_
  refine pX10_85 5 rfl dX10_ask_2 rfl ?_
  refine z_iload_n 6 dX10_ask_5 rfl rfl ?_
  refine z_ri dX10_ask_6 rfl ?_
  exact ⟨rfl, rfl⟩
set_option maxRecDepth 20000 in
theorem tX10_isRow {E : zE} {d : Nat} {σ : zM} {r : Int32} : Ret E mX10_isRow (d + 1) [.int r] σ (qI fun x τ => x = bI (decide (inN r 6)) ∧ τ = σ) := by
  refine Ret.of [some (.int r)] (by decide +kernel) (Nat.le_of_ble_eq_true rfl) rfl ?_
  refine z_iload_n 1 dX10_isRow_0 rfl rfl ?_
  refine z_iconst 2 (v := nI 0) dX10_isRow_1 rfl rfl ?_
  refine z_iconst 3 (v := nI 5) dX10_isRow_2 rfl rfl ?_
  refine z_cSI3 6 (tX10_in) kX10_in dX10_isRow_3 rfl lX10_91 (Nat.le_of_ble_eq_true rfl) ?_
  rintro _ _ ⟨e1, e2⟩
  replace e1 := e1.symm
  replace e2 := e2.symm
  subst e1
  subst e2
  refine z_rz dX10_isRow_6 rfl (by first | exact Or.inl rfl | exact Or.inr rfl | exact bI_01 _ | assumption) ?_
  exact ⟨bI_c (inN_in (by decide)), rfl⟩
set_option maxRecDepth 20000 in
theorem tX10_isText {E : zE} {d : Nat} {σ : zM} {r : Int32} : Ret E mX10_isText (d + 1) [.int r] σ (qI fun x τ => x = bI (decide (inN r 4)) ∧ τ = σ) := by
  refine Ret.of [some (.int r)] (by decide +kernel) (Nat.le_of_ble_eq_true rfl) rfl ?_
  refine z_iload_n 1 dX10_isText_0 rfl rfl ?_
  refine z_iconst 2 (v := nI 0) dX10_isText_1 rfl rfl ?_
  refine z_iconst 3 (v := nI 3) dX10_isText_2 rfl rfl ?_
  refine z_cSI3 6 (tX10_in) kX10_in dX10_isText_3 rfl lX10_91 (Nat.le_of_ble_eq_true rfl) ?_
  rintro _ _ ⟨e1, e2⟩
  replace e1 := e1.symm
  replace e2 := e2.symm
  subst e1
  subst e2
  refine z_rz dX10_isText_6 rfl (by first | exact Or.inl rfl | exact Or.inr rfl | exact bI_01 _ | assumption) ?_
  exact ⟨bI_c (inN_in (by decide)), rfl⟩
/-- -1; -3 (nothing); 0 -/
def mAr (σ : zM) (r : Int32) (c n : Nat) : Int32 × zM := if ¬ inN r n then (-1, σ) else if gi σ c r.toNatClampNeg < 0 then (-3, mMt σ 1) else (nI 0, σ)
set_option maxRecDepth 20000 in
theorem tX10_askedRow {E : zE} {d : Nat} {σ : zM} {r : Int32} : Ret E mX10_askedRow (d + 2) [zr E 102, .int r] σ (qI fun x τ => x = (mAr σ r 104 6).1 ∧ τ = (mAr σ r 104 6).2) := by
  refine Ret.of [some (zr E 102), some (.int r)] (by decide +kernel) (Nat.le_of_ble_eq_true rfl) rfl ?_
  refine z_iload_n 1 dX10_askedRow_0 rfl rfl ?_
  refine z_cSI1 4 (tX10_isRow) kX10_isRow dX10_askedRow_1 rfl lX10_95 (Nat.le_of_ble_eq_true rfl) ?_
  rintro _ _ ⟨e1, e2⟩
  replace e1 := e1.symm
  replace e2 := e2.symm
  subst e1
  subst e2
  refine z_ifb_ne 11 7 dX10_askedRow_4 (by decide) rfl (fun h4 => ?_) (fun h4 => ?_)
  · obtain ⟨r, hr, rfl⟩ := inN_of h4
    refine z_aload_n 12 dX10_askedRow_11 rfl rfl ?_
    refine gX10_17 15 rfl dX10_askedRow_12 rfl ?_
    refine z_iload_n 16 dX10_askedRow_15 rfl rfl ?_
    refine z_ialdn 17 dX10_askedRow_16 rfl (by first | assumption | rfl) (by omega) ?_
    refine z_if_ge 28 20 dX10_askedRow_17 (by decide) rfl (fun h17 => ?_) (fun h17 => ?_)
    · (try rw [nI_ge0 (by omega)] at h17)
      refine z_iconst 29 (v := nI 0) dX10_askedRow_28 rfl rfl ?_
      refine z_ri dX10_askedRow_29 rfl ?_
      unfold mAr
      first | (rw [if_pos h4]; exact ⟨rfl, rfl⟩) | (rw [if_neg (fun q => q h4), nI_clamp (by omega)]; first | (rw [if_pos (Int32.not_le.mp h17)]; exact ⟨rfl, rfl⟩) | (rw [if_neg (Int32.not_lt.mpr h17)]; exact ⟨rfl, rfl⟩))
    · (try rw [nI_ge0 (by omega)] at h17)
      refine z_aload_n 21 dX10_askedRow_20 rfl rfl ?_
      refine z_iconst 22 (v := nI 1) dX10_askedRow_21 rfl rfl ?_
      refine z_cVI1 25 (tX10_meets (by omega)) kX10_meets dX10_askedRow_22 rfl lX10_99 (by first | assumption | rfl) (Nat.le_of_ble_eq_true rfl) ?_
      rintro _ _ ⟨e1, e2⟩
      replace e1 := e1.symm
      replace e2 := e2.symm
      subst e1
      subst e2
      refine z_goto 29 dX10_askedRow_25 rfl ?_
      refine z_ri dX10_askedRow_29 rfl ?_
      unfold mAr
      first | (rw [if_pos h4]; exact ⟨rfl, rfl⟩) | (rw [if_neg (fun q => q h4), nI_clamp (by omega)]; first | (rw [if_pos (Int32.not_le.mp h17)]; exact ⟨rfl, rfl⟩) | (rw [if_neg (Int32.not_lt.mpr h17)]; exact ⟨rfl, rfl⟩))
  · refine z_iconst 8 (v := (-1)) dX10_askedRow_7 rfl rfl ?_
    refine z_goto 29 dX10_askedRow_8 rfl ?_
    refine z_ri dX10_askedRow_29 rfl ?_
    unfold mAr
    first | (rw [if_pos h4]; exact ⟨rfl, rfl⟩) | (rw [if_neg (fun q => q h4), nI_clamp (by omega)]; first | (rw [if_pos (Int32.not_le.mp h17)]; exact ⟨rfl, rfl⟩) | (rw [if_neg (Int32.not_lt.mpr h17)]; exact ⟨rfl, rfl⟩))
set_option maxRecDepth 20000 in
theorem tX10_askedText {E : zE} {d : Nat} {σ : zM} {r : Int32} : Ret E mX10_askedText (d + 2) [zr E 102, .int r] σ (qI fun x τ => x = (mAr σ r 107 4).1 ∧ τ = (mAr σ r 107 4).2) := by
  refine Ret.of [some (zr E 102), some (.int r)] (by decide +kernel) (Nat.le_of_ble_eq_true rfl) rfl ?_
  refine z_iload_n 1 dX10_askedText_0 rfl rfl ?_
  refine z_cSI1 4 (tX10_isText) kX10_isText dX10_askedText_1 rfl lX10_103 (Nat.le_of_ble_eq_true rfl) ?_
  rintro _ _ ⟨e1, e2⟩
  replace e1 := e1.symm
  replace e2 := e2.symm
  subst e1
  subst e2
  refine z_ifb_ne 11 7 dX10_askedText_4 (by decide) rfl (fun h4 => ?_) (fun h4 => ?_)
  · obtain ⟨r, hr, rfl⟩ := inN_of h4
    refine z_aload_n 12 dX10_askedText_11 rfl rfl ?_
    refine gX10_26 15 rfl dX10_askedText_12 rfl ?_
    refine z_iload_n 16 dX10_askedText_15 rfl rfl ?_
    refine z_ialdn 17 dX10_askedText_16 rfl (by first | assumption | rfl) (by omega) ?_
    refine z_if_ge 28 20 dX10_askedText_17 (by decide) rfl (fun h17 => ?_) (fun h17 => ?_)
    · (try rw [nI_ge0 (by omega)] at h17)
      refine z_iconst 29 (v := nI 0) dX10_askedText_28 rfl rfl ?_
      refine z_ri dX10_askedText_29 rfl ?_
      unfold mAr
      first | (rw [if_pos h4]; exact ⟨rfl, rfl⟩) | (rw [if_neg (fun q => q h4), nI_clamp (by omega)]; first | (rw [if_pos (Int32.not_le.mp h17)]; exact ⟨rfl, rfl⟩) | (rw [if_neg (Int32.not_lt.mpr h17)]; exact ⟨rfl, rfl⟩))
    · (try rw [nI_ge0 (by omega)] at h17)
      refine z_aload_n 21 dX10_askedText_20 rfl rfl ?_
      refine z_iconst 22 (v := nI 1) dX10_askedText_21 rfl rfl ?_
      refine z_cVI1 25 (tX10_meets (by omega)) kX10_meets dX10_askedText_22 rfl lX10_99 (by first | assumption | rfl) (Nat.le_of_ble_eq_true rfl) ?_
      rintro _ _ ⟨e1, e2⟩
      replace e1 := e1.symm
      replace e2 := e2.symm
      subst e1
      subst e2
      refine z_goto 29 dX10_askedText_25 rfl ?_
      refine z_ri dX10_askedText_29 rfl ?_
      unfold mAr
      first | (rw [if_pos h4]; exact ⟨rfl, rfl⟩) | (rw [if_neg (fun q => q h4), nI_clamp (by omega)]; first | (rw [if_pos (Int32.not_le.mp h17)]; exact ⟨rfl, rfl⟩) | (rw [if_neg (Int32.not_lt.mpr h17)]; exact ⟨rfl, rfl⟩))
  · refine z_iconst 8 (v := (-1)) dX10_askedText_7 rfl rfl ?_
    refine z_goto 29 dX10_askedText_8 rfl ?_
    refine z_ri dX10_askedText_29 rfl ?_
    unfold mAr
    first | (rw [if_pos h4]; exact ⟨rfl, rfl⟩) | (rw [if_neg (fun q => q h4), nI_clamp (by omega)]; first | (rw [if_pos (Int32.not_le.mp h17)]; exact ⟨rfl, rfl⟩) | (rw [if_neg (Int32.not_lt.mpr h17)]; exact ⟨rfl, rfl⟩))
set_option maxRecDepth 20000 in
theorem tX10_rowAt {E : zE} {d : Nat} {σ : zM} {r i : Nat} (hr : r < 6) (hi : i < 40) : Ret E mX10_rowAt d [zr E 102, .int (nI r), .int (nI i)] σ (qI fun x τ => x = gi σ 105 (40 * r + i) ∧ τ = σ) := by
  refine Ret.of [some (zr E 102), some (.int (nI r)), some (.int (nI i))] (by decide +kernel) (Nat.le_of_ble_eq_true rfl) rfl ?_
  refine z_aload_n 1 dX10_rowAt_0 rfl rfl ?_
  refine gX10_20 4 rfl dX10_rowAt_1 rfl ?_
  refine z_bipush 6 (v := nI 40) dX10_rowAt_4 rfl rfl ?_
  refine z_iload_n 7 dX10_rowAt_6 rfl rfl ?_
  refine z_imul 8 dX10_rowAt_7 rfl ?_
  refine z_iload_n 9 dX10_rowAt_8 rfl rfl ?_
  refine z_iadd 10 dX10_rowAt_9 rfl ?_
  rw [nI_mul, nI_add]
  refine z_ialdn 11 dX10_rowAt_10 rfl (by first | assumption | rfl) (by omega) ?_
  refine z_ri dX10_rowAt_11 rfl ?_
  exact ⟨rfl, rfl⟩
set_option maxRecDepth 20000 in
theorem tX10_setRow {E : zE} {d : Nat} {σ : zM} {r i : Nat} {v : Int32} (hr : r < 6) (hi : i < 40) : Ret E mX10_setRow d [zr E 102, .int (nI r), .int (nI i), .int v] σ (qV fun τ => τ = si σ 105 (40 * r + i) v) := by
  refine Ret.of [some (zr E 102), some (.int (nI r)), some (.int (nI i)), some (.int v)] (by decide +kernel) (Nat.le_of_ble_eq_true rfl) rfl ?_
  refine z_aload_n 1 dX10_setRow_0 rfl rfl ?_
  refine gX10_20 4 rfl dX10_setRow_1 rfl ?_
  refine z_bipush 6 (v := nI 40) dX10_setRow_4 rfl rfl ?_
  refine z_iload_n 7 dX10_setRow_6 rfl rfl ?_
  refine z_imul 8 dX10_setRow_7 rfl ?_
  refine z_iload_n 9 dX10_setRow_8 rfl rfl ?_
  refine z_iadd 10 dX10_setRow_9 rfl ?_
  rw [nI_mul, nI_add]
  refine z_iload_n 11 dX10_setRow_10 rfl rfl ?_
  refine z_iastn 12 dX10_setRow_11 rfl (by first | assumption | rfl) (by omega) ?_
  refine z_rv dX10_setRow_12 rfl ?_
  rfl
