theorem bI_t {p : Prop} {hp : Decidable p} (h : p) : nI 1 = bI (decide p) := by rw [decide_eq_true h]; rfl
theorem bI_f {p : Prop} {hp : Decidable p} (h : ¬ p) : nI 0 = bI (decide p) := by rw [decide_eq_false h]; rfl
set_option maxRecDepth 20000 in
theorem tX7_isMissing {E : zE} {d : Nat} {σ : zM} {a : Nat} (hk : (kd a).1 = 7) : Ret E mX7_isMissing d [zr E a] σ (qI fun x τ => x = bI (decide (gi σ a 1 < 0)) ∧ τ = σ) := by
  refine Ret.of [some (zr E a)] (by decide +kernel) (Nat.le_of_ble_eq_true rfl) rfl ?_
  refine z_aload_n 1 dX7_isMissing_0 rfl rfl ?_
  refine gX7_9 4 rfl dX7_isMissing_1 rfl (by first | assumption | rfl) ?_
  refine z_if_ge 11 7 dX7_isMissing_4 (by decide) rfl (fun h4 => ?_) (fun h4 => ?_)
  · (try rw [nI_ge0 (by omega)] at h4)
    have q : ¬ gi σ a 1 < 0 := Int32.not_lt.mpr h4
    refine z_iconst 12 (v := nI 0) dX7_isMissing_11 rfl rfl ?_
    refine z_rz dX7_isMissing_12 rfl (by first | exact Or.inl rfl | exact Or.inr rfl | exact bI_01 _ | assumption) ?_
    first | exact ⟨bI_t q, rfl⟩ | exact ⟨bI_f q, rfl⟩
  · (try rw [nI_ge0 (by omega)] at h4)
    have q : gi σ a 1 < 0 := Int32.not_le.mp h4
    refine z_iconst 8 (v := nI 1) dX7_isMissing_7 rfl rfl ?_
    refine z_goto 12 dX7_isMissing_8 rfl ?_
    refine z_rz dX7_isMissing_12 rfl (by first | exact Or.inl rfl | exact Or.inr rfl | exact bI_01 _ | assumption) ?_
    first | exact ⟨bI_t q, rfl⟩ | exact ⟨bI_f q, rfl⟩
set_option maxRecDepth 20000 in
theorem tX7_has {E : zE} {d : Nat} {σ : zM} {a : Nat} {i : Int32} (hk : (kd a).1 = 7) : Ret E mX7_has d [zr E a, .int i] σ (qI fun x τ => x = bI (decide (0 ≤ i ∧ i < gi σ a 1)) ∧ τ = σ) := by
  refine Ret.of [some (zr E a), some (.int i)] (by decide +kernel) (Nat.le_of_ble_eq_true rfl) rfl ?_
  refine z_iload_n 1 dX7_has_0 rfl rfl ?_
  refine z_if_lt 16 4 dX7_has_1 (by decide) rfl (fun h1 => ?_) (fun h1 => ?_)
  · (try rw [nI_lt0 (by omega)] at h1)
    have q : ¬ (0 ≤ i ∧ i < gi σ a 1) := fun q => Int32.not_le.mpr h1 q.1
    refine z_iconst 17 (v := nI 0) dX7_has_16 rfl rfl ?_
    refine z_rz dX7_has_17 rfl (by first | exact Or.inl rfl | exact Or.inr rfl | exact bI_01 _ | assumption) ?_
    first | exact ⟨bI_t q, rfl⟩ | exact ⟨bI_f q, rfl⟩
  · (try rw [nI_lt0 (by omega)] at h1)
    refine z_iload_n 5 dX7_has_4 rfl rfl ?_
    refine z_aload_n 6 dX7_has_5 rfl rfl ?_
    refine gX7_9 9 rfl dX7_has_6 rfl (by first | assumption | rfl) ?_
    refine z_icmp_ge 16 12 dX7_has_9 (by decide) rfl (fun h9 => ?_) (fun h9 => ?_)
    · (try rw [nI_leI (by omega) (by omega)] at h9)
      have q : ¬ (0 ≤ i ∧ i < gi σ a 1) := fun q => Int32.not_lt.mpr h9 q.2
      refine z_iconst 17 (v := nI 0) dX7_has_16 rfl rfl ?_
      refine z_rz dX7_has_17 rfl (by first | exact Or.inl rfl | exact Or.inr rfl | exact bI_01 _ | assumption) ?_
      first | exact ⟨bI_t q, rfl⟩ | exact ⟨bI_f q, rfl⟩
    · (try rw [nI_leI (by omega) (by omega)] at h9)
      have q : 0 ≤ i ∧ i < gi σ a 1 := ⟨Int32.not_lt.mp h1, Int32.not_le.mp h9⟩
      refine z_iconst 13 (v := nI 1) dX7_has_12 rfl rfl ?_
      refine z_goto 17 dX7_has_13 rfl ?_
      refine z_rz dX7_has_17 rfl (by first | exact Or.inl rfl | exact Or.inr rfl | exact bI_01 _ | assumption) ?_
      first | exact ⟨bI_t q, rfl⟩ | exact ⟨bI_f q, rfl⟩
set_option maxRecDepth 20000 in
theorem tX7_get {E : zE} {d : Nat} {σ : zM} {a cap n j : Nat} (hk : (kd a).1 = 7) (hk1 : kd (a + 1) = (11, cap)) (hs : gi σ a 1 = nI n) (hn : n ≤ cap) (hj : j < n) : Ret E mX7_get (d + 1) [zr E a, .int (nI j)] σ (qI fun x τ => x = gi σ (a + 1) j ∧ τ = σ) := by
  have hc := kd_small (a + 1)
  rw [hk1] at hc
  have hc : cap < 2 ^ 31 := hc
  refine Ret.of [some (zr E a), some (.int (nI j))] (by decide +kernel) (Nat.le_of_ble_eq_true rfl) rfl ?_
  refine z_aload_n 1 dX7_get_0 rfl rfl ?_
  refine z_iload_n 2 dX7_get_1 rfl rfl ?_
  refine z_cVI1 5 (tX7_has (by first | assumption | rfl)) kX7_has dX7_get_2 rfl lX7_25 (by first | assumption | rfl) (Nat.le_of_ble_eq_true rfl) ?_
  rintro _ _ ⟨e1, e2⟩
  replace e1 := e1.symm
  replace e2 := e2.symm
  subst e1
  subst e2
  refine z_ifb_eq 17 8 dX7_get_5 (by decide) rfl (fun h5 => ?_) (fun h5 => ?_)
  · exact absurd ⟨nI_pos' (by omega), by rw [hs]; exact nI_lt hj (by omega)⟩ h5
  · refine z_aload_n 9 dX7_get_8 rfl rfl ?_
    refine gX7_21 12 rfl dX7_get_9 rfl (by first | assumption | rfl) ?_
    refine z_iload_n 13 dX7_get_12 rfl rfl ?_
    refine z_ialdn 14 dX7_get_13 rfl (by first | assumption | rfl) (by omega) ?_
    refine z_goto 18 dX7_get_14 rfl ?_
    refine z_ri dX7_get_18 rfl ?_
    exact ⟨rfl, rfl⟩
