/-! rows of parts -/
abbrev UB (n : Nat) (f : Nat → Int32) (b : Nat) : Prop := ∀ i, i < n → (inN (f i) b ∧ ∀ j, j < i → f i ≠ f j)
def sDf (o : sRow) : Nat := match o with
  | none => 1
  | some q => if q.1 < 1 ∨ 6 < q.1 then 5 else if UB q.1 q.2 10 then 0 else 3
def gOf (o : sRow) (i : Nat) : Nat := zx (sGet o i)
theorem UB_pts {n b : Nat} {f : Nat → Int32} (h : UB n f b) : ∀ i, i < n → f i = nI (zx (f i)) ∧ zx (f i) < b ∧ ∀ j, j < i → zx (f i) ≠ zx (f j) := by
  intro i hi
  obtain ⟨h1, h2⟩ := h i hi
  obtain ⟨k, hk, e⟩ := inN_of h1
  have hk31 : zx (f i) < 2 ^ 31 := by unfold zx; have := h1.2; rw [e] at this ⊢; exact (by
    have h9 : (nI k).toInt.toNat < 2 ^ 31 := by have := Int32.toInt_lt (nI k); omega
    exact h9)
  have e1 : ∀ m, m < n → f m = nI (zx (f m)) := by
    intro m hm
    obtain ⟨j, hj, rfl'⟩ := nI_of (h m hm).1.1
    rw [rfl', zx_nI hj]
  refine ⟨e1 i hi, h1.2, fun j hj z => h2 j hj ?_⟩
  rw [e1 i hi, e1 j (by omega), z]
theorem sDf0 {o : sRow} (h : sDf o = 0) : ∃ q, o = some q ∧ PtsOK q.1 (gOf o) ∧ ∀ i, i < q.1 → q.2 i = nI (gOf o i) := by
  cases o with
  | none => exact absurd (show (1 : Nat) = 0 from h) (by decide)
  | some q =>
    have h : (if q.1 < 1 ∨ 6 < q.1 then 5 else if UB q.1 q.2 10 then 0 else 3) = 0 := h
    by_cases h1 : q.1 < 1 ∨ 6 < q.1
    · rw [if_pos h1] at h; exact absurd h (by decide)
    · rw [if_neg h1] at h
      by_cases h2 : UB q.1 q.2 10
      · refine ⟨q, rfl, ⟨by omega, by omega, fun i hi => (UB_pts h2 i hi).2⟩, fun i hi => (UB_pts h2 i hi).1⟩
      · rw [if_neg h2] at h; exact absurd h (by decide)
theorem sDf_lt (o : sRow) : sDf o < 6 := by
  cases o with
  | none => exact (by decide : (1 : Nat) < 6)
  | some q =>
    show (if q.1 < 1 ∨ 6 < q.1 then 5 else if UB q.1 q.2 10 then 0 else 3) < 6
    split
    · decide
    · split <;> decide
set_option maxRecDepth 20000 in
theorem tX7_isUnlikeBelow {E : zE} {d : Nat} {σ : zM} {a cap b : Nat} {q : Nat × (Nat → Int32)} (hk : (kd a).1 = 7) (hk1 : kd (a + 1) = (11, cap)) (hS : Sh σ a cap (some q)) (hb : b ≤ 30) : Ret E mX7_isUnlikeBelow d [zr E a, .int (nI b)] σ (qI fun x τ => x = bI (decide (UB q.1 q.2 b)) ∧ τ = σ) := by
  have hc := cap_lt hk1
  have hq := hS.1
  have hs : gi σ a 1 = nI q.1 := hS.2.1
  refine Ret.of [some (zr E a), some (.int (nI b)), none, none, none] (by decide +kernel) (Nat.le_of_ble_eq_true rfl) rfl ?_
  have loop : ∀ i, i ≤ q.1 → UB i q.2 b → At E mX7_isUnlikeBelow d (qI fun x τ => x = bI (decide (UB q.1 q.2 b)) ∧ τ = σ) 4 [some (zr E a), some (.int (nI b)), some (.int (nI (pset (fun k => zx (q.2 k)) i))), some (.int (nI i)), none] [] σ := by
    refine z_up (fun i hi ih hU => ?_)
    have hpl : pset (fun k => zx (q.2 k)) i < 2 ^ 31 := Nat.lt_of_lt_of_le (pset_lt _ b i (fun k hk => (UB_pts hU k hk).2.1)) (Nat.pow_le_pow_right (by decide) (by omega))
    by_cases hiq : i = q.1
    · subst hiq
      refine z_iload_n 5 dX7_isUnlikeBelow_4 rfl rfl ?_
      refine z_aload_n 6 dX7_isUnlikeBelow_5 rfl rfl ?_
      refine gX7_9 9 rfl dX7_isUnlikeBelow_6 rfl (by first | assumption | rfl) ?_
      rw [hs]
      refine z_icmp_ge 55 12 dX7_isUnlikeBelow_9 (by decide) rfl (fun h9 => ?_) (fun h9 => ?_)
      · (try rw [nI_leI (by omega) (by omega)] at h9)
        refine z_iconst 56 (v := nI 1) dX7_isUnlikeBelow_55 rfl rfl ?_
        refine z_rz dX7_isUnlikeBelow_56 rfl (by first | exact Or.inl rfl | exact Or.inr rfl | exact bI_01 _ | assumption) ?_
        exact ⟨bI_t hU, rfl⟩
      · (try rw [nI_leI (by omega) (by omega)] at h9)
        omega
    · have hilt : i < q.1 := by omega
      refine z_iload_n 5 dX7_isUnlikeBelow_4 rfl rfl ?_
      refine z_aload_n 6 dX7_isUnlikeBelow_5 rfl rfl ?_
      refine gX7_9 9 rfl dX7_isUnlikeBelow_6 rfl (by first | assumption | rfl) ?_
      rw [hs]
      refine z_icmp_ge 55 12 dX7_isUnlikeBelow_9 (by decide) rfl (fun h9 => ?_) (fun h9 => ?_)
      · (try rw [nI_leI (by omega) (by omega)] at h9)
        omega
      · (try rw [nI_leI (by omega) (by omega)] at h9)
        refine z_aload_n 13 dX7_isUnlikeBelow_12 rfl rfl ?_
        refine gX7_21 16 rfl dX7_isUnlikeBelow_13 rfl (by first | assumption | rfl) ?_
        refine z_iload_n 17 dX7_isUnlikeBelow_16 rfl rfl ?_
        refine z_ialdn 18 dX7_isUnlikeBelow_17 rfl (by first | assumption | rfl) (by omega) ?_
        rw [hS.2.2 i hilt]
        refine zs_istore_4_5 20 rfl dX7_isUnlikeBelow_18 rfl rfl ?_
        refine z_iload 22 dX7_isUnlikeBelow_20 rfl rfl ?_
        refine z_if_lt 40 25 dX7_isUnlikeBelow_22 (by decide) rfl (fun h22 => ?_) (fun h22 => ?_)
        · have hz : ¬ UB q.1 q.2 b := fun z => (z i hilt).1.1 h22
          refine z_iconst 41 (v := nI 0) dX7_isUnlikeBelow_40 rfl rfl ?_
          refine z_rz dX7_isUnlikeBelow_41 rfl (by first | exact Or.inl rfl | exact Or.inr rfl | exact bI_01 _ | assumption) ?_
          exact ⟨bI_f hz, rfl⟩
        · refine z_iload 27 dX7_isUnlikeBelow_25 rfl rfl ?_
          refine z_iload_n 28 dX7_isUnlikeBelow_27 rfl rfl ?_
          refine z_icmp_ge 40 31 dX7_isUnlikeBelow_28 (by decide) rfl (fun h28 => ?_) (fun h28 => ?_)
          · have hz : ¬ UB q.1 q.2 b := fun z => inN_f2 (by omega) h28 (z i hilt).1
            refine z_iconst 41 (v := nI 0) dX7_isUnlikeBelow_40 rfl rfl ?_
            refine z_rz dX7_isUnlikeBelow_41 rfl (by first | exact Or.inl rfl | exact Or.inr rfl | exact bI_01 _ | assumption) ?_
            exact ⟨bI_f hz, rfl⟩
          · obtain ⟨v, hvb, hv⟩ := inN_of (inN_t (by omega) h22 h28)
            have hzx : zx (q.2 i) = v := by rw [hv, zx_nI (by omega)]
            rw [hv]
            refine z_iload_n 32 dX7_isUnlikeBelow_31 rfl rfl ?_
            refine z_iload 34 dX7_isUnlikeBelow_32 rfl rfl ?_
            refine z_ishr 35 dX7_isUnlikeBelow_34 rfl ?_
            refine z_iconst 36 (v := nI 1) dX7_isUnlikeBelow_35 rfl rfl ?_
            refine z_iand 37 dX7_isUnlikeBelow_36 rfl ?_
            rw [zb_bit hpl (by omega)]
            refine z_if_eq 42 40 dX7_isUnlikeBelow_37 (by decide) rfl (fun h37 => ?_) (fun h37 => ?_)
            · have hb2 : (pset (fun k => zx (q.2 k)) i).testBit v = false := by
                cases hb2 : (pset (fun k => zx (q.2 k)) i).testBit v with
                | false => rfl
                | true => rw [hb2] at h37; exact absurd h37 (by decide)
              have hU1 : UB (i + 1) q.2 b := fun k hk => by
                by_cases hki : k = i
                · subst hki
                  refine ⟨by rw [hv]; exact inN_nI hvb (by omega), fun j hj z => ?_⟩
                  have : (pset (fun k => zx (q.2 k)) k).testBit v = true := (pset_bit _ _ _).mpr ⟨j, hj, by show zx (q.2 j) = v; rw [← z, hzx]⟩
                  rw [hb2] at this; cases this
                · exact hU k (by omega)
              refine z_iload_n 43 dX7_isUnlikeBelow_42 rfl rfl ?_
              refine z_iconst 44 (v := nI 1) dX7_isUnlikeBelow_43 rfl rfl ?_
              refine z_iload 46 dX7_isUnlikeBelow_44 rfl rfl ?_
              refine z_ishl 47 dX7_isUnlikeBelow_46 rfl ?_
              rw [zb_shl (by omega)]
              refine z_ior 48 dX7_isUnlikeBelow_47 rfl ?_
              rw [zb_or]
              refine zs_istore_n_2_5 49 rfl dX7_isUnlikeBelow_48 rfl rfl ?_
              refine zs_iinc_3_5_1 52 rfl dX7_isUnlikeBelow_49 rfl rfl ?_
              rw [nI_add]
              refine z_goto 4 dX7_isUnlikeBelow_52 rfl ?_
              have := ih (i + 1) (by omega) (by omega) hU1
              rw [pset, hzx] at this
              exact zf_4_5 this
            · have hz : ¬ UB q.1 q.2 b := fun z => by
                cases hb2 : (pset (fun k => zx (q.2 k)) i).testBit v with
                | false => rw [hb2] at h37; exact h37 rfl
                | true =>
                  obtain ⟨j, hj1, hj2⟩ := (pset_bit _ _ _).mp hb2
                  have h5 : zx (q.2 j) = v := hj2
                  exact (UB_pts z i hilt).2.2 j hj1 (by rw [hzx, h5])
              refine z_iconst 41 (v := nI 0) dX7_isUnlikeBelow_40 rfl rfl ?_
              refine z_rz dX7_isUnlikeBelow_41 rfl (by first | exact Or.inl rfl | exact Or.inr rfl | exact bI_01 _ | assumption) ?_
              exact ⟨bI_f hz, rfl⟩
  refine z_iconst 1 (v := nI 0) dX7_isUnlikeBelow_0 rfl rfl ?_
  refine zs_istore_n_2_5 2 rfl dX7_isUnlikeBelow_1 rfl rfl ?_
  refine z_iconst 3 (v := nI 0) dX7_isUnlikeBelow_2 rfl rfl ?_
  refine zs_istore_n_3_5 4 rfl dX7_isUnlikeBelow_3 rfl rfl ?_
  exact loop 0 (Nat.zero_le _) (fun i hi => absurd hi (Nat.not_lt_zero i))
set_option maxRecDepth 20000 in
theorem tX7_drawnFault {E : zE} {d : Nat} {σ : zM} {a cap : Nat} {o : sRow} (hk : (kd a).1 = 7) (hk1 : kd (a + 1) = (11, cap)) (hS : Sh σ a cap o) : Ret E mX7_drawnFault (d + 1) [zr E a] σ (qI fun x τ => x = nI (sDf o) ∧ τ = σ) := by
  have hc := cap_lt hk1
  refine Ret.of [some (zr E a)] (by decide +kernel) (Nat.le_of_ble_eq_true rfl) rfl ?_
  refine z_aload_n 1 dX7_drawnFault_0 rfl rfl ?_
  refine z_cVI0 4 (tX7_isM (by first | assumption | rfl) (by first | assumption | rfl) (by first | assumption | rfl)) kX7_isMissing dX7_drawnFault_1 rfl lX7_38 (by first | assumption | rfl) (Nat.le_of_ble_eq_true rfl) ?_
  rintro _ _ ⟨e1, e2⟩
  replace e1 := e1.symm
  replace e2 := e2.symm
  subst e1
  subst e2
  refine z_ifb_eq 9 7 dX7_drawnFault_4 (by decide) rfl (fun h4 => ?_) (fun h4 => ?_)
  · obtain ⟨q, rfl⟩ := Option.ne_none_iff_exists'.mp h4
    have hs : gi σ a 1 = nI q.1 := hS.2.1
    have hq := hS.1
    refine z_aload_n 10 dX7_drawnFault_9 rfl rfl ?_
    refine gX7_9 13 rfl dX7_drawnFault_10 rfl (by first | assumption | rfl) ?_
    rw [hs]
    refine z_iconst 14 (v := nI 1) dX7_drawnFault_13 rfl rfl ?_
    refine z_icmp_lt 26 17 dX7_drawnFault_14 (by decide) rfl (fun h14 => ?_) (fun h14 => ?_)
    · (try rw [nI_ltI (by omega) (by omega)] at h14)
      refine z_iconst 27 (v := nI 5) dX7_drawnFault_26 rfl rfl ?_
      refine z_ri dX7_drawnFault_27 rfl ?_
      exact ⟨by show _ = nI (if q.1 < 1 ∨ 6 < q.1 then 5 else if UB q.1 q.2 10 then 0 else 3); rw [if_pos (by omega)], rfl⟩
    · (try rw [nI_ltI (by omega) (by omega)] at h14)
      refine z_aload_n 18 dX7_drawnFault_17 rfl rfl ?_
      refine gX7_9 21 rfl dX7_drawnFault_18 rfl (by first | assumption | rfl) ?_
      rw [hs]
      refine z_bipush 23 (v := nI 6) dX7_drawnFault_21 rfl rfl ?_
      refine z_icmp_le 28 26 dX7_drawnFault_23 (by decide) rfl (fun h23 => ?_) (fun h23 => ?_)
      · (try rw [nI_leI (by omega) (by omega)] at h23)
        refine z_aload_n 29 dX7_drawnFault_28 rfl rfl ?_
        refine z_bipush 31 (v := nI 10) dX7_drawnFault_29 rfl rfl ?_
        refine z_cVI1 34 (tX7_isUnlikeBelow hk hk1 hS (by decide)) kX7_isUnlikeBelow dX7_drawnFault_31 rfl lX7_42 (by first | assumption | rfl) (Nat.le_of_ble_eq_true rfl) ?_
        rintro _ _ ⟨e1, e2⟩
        replace e1 := e1.symm
        replace e2 := e2.symm
        subst e1
        subst e2
        refine z_ifb_eq 41 37 dX7_drawnFault_34 (by decide) rfl (fun h34 => ?_) (fun h34 => ?_)
        · refine z_iconst 42 (v := nI 3) dX7_drawnFault_41 rfl rfl ?_
          refine z_ri dX7_drawnFault_42 rfl ?_
          refine ⟨?_, rfl⟩
          show _ = nI (if q.1 < 1 ∨ 6 < q.1 then 5 else if UB q.1 q.2 10 then 0 else 3)
          rw [if_neg (by omega)]
          first | rw [if_pos h34] | rw [if_neg h34]
        · refine z_iconst 38 (v := nI 0) dX7_drawnFault_37 rfl rfl ?_
          refine z_goto 42 dX7_drawnFault_38 rfl ?_
          refine z_ri dX7_drawnFault_42 rfl ?_
          refine ⟨?_, rfl⟩
          show _ = nI (if q.1 < 1 ∨ 6 < q.1 then 5 else if UB q.1 q.2 10 then 0 else 3)
          rw [if_neg (by omega)]
          first | rw [if_pos h34] | rw [if_neg h34]
      · (try rw [nI_leI (by omega) (by omega)] at h23)
        refine z_iconst 27 (v := nI 5) dX7_drawnFault_26 rfl rfl ?_
        refine z_ri dX7_drawnFault_27 rfl ?_
        exact ⟨by show _ = nI (if q.1 < 1 ∨ 6 < q.1 then 5 else if UB q.1 q.2 10 then 0 else 3); rw [if_pos (by omega)], rfl⟩
  · subst h4
    refine z_iconst 8 (v := nI 1) dX7_drawnFault_7 rfl rfl ?_
    refine z_ri dX7_drawnFault_8 rfl ?_
    exact ⟨rfl, rfl⟩
set_option maxRecDepth 20000 in
theorem tX7_partSet {E : zE} {d : Nat} {σ : zM} {a cap : Nat} {q : Nat × (Nat → Int32)} {g : Nat → Nat} (hk : (kd a).1 = 7) (hk1 : kd (a + 1) = (11, cap)) (hS : Sh σ a cap (some q)) (hg : ∀ i, i < q.1 → q.2 i = nI (g i) ∧ g i < 10) : Ret E mX7_partSet d [zr E a] σ (qI fun x τ => x = nI (pset g q.1) ∧ τ = σ) := by
  have hc := cap_lt hk1
  have hq := hS.1
  have hs : gi σ a 1 = nI q.1 := hS.2.1
  refine Ret.of [some (zr E a), none, none] (by decide +kernel) (Nat.le_of_ble_eq_true rfl) rfl ?_
  have loop : ∀ i, i ≤ q.1 → At E mX7_partSet d (qI fun x τ => x = nI (pset g q.1) ∧ τ = σ) 4 [some (zr E a), some (.int (nI (pset g i))), some (.int (nI i))] [] σ := by
    refine z_up (fun i hi ih => ?_)
    refine z_iload_n 5 dX7_partSet_4 rfl rfl ?_
    refine z_aload_n 6 dX7_partSet_5 rfl rfl ?_
    refine gX7_9 9 rfl dX7_partSet_6 rfl (by first | assumption | rfl) ?_
    rw [hs]
    refine z_icmp_ge 29 12 dX7_partSet_9 (by decide) rfl (fun h9 => ?_) (fun h9 => ?_)
    · (try rw [nI_leI (by omega) (by omega)] at h9)
      have hil : i = q.1 := by omega
      subst hil
      refine z_iload_n 30 dX7_partSet_29 rfl rfl ?_
      refine z_ri dX7_partSet_30 rfl ?_
      exact ⟨rfl, rfl⟩
    · (try rw [nI_leI (by omega) (by omega)] at h9)
      have hil : i < q.1 := by omega
      obtain ⟨hg1, hg2⟩ := hg i hil
      refine z_iload_n 13 dX7_partSet_12 rfl rfl ?_
      refine z_iconst 14 (v := nI 1) dX7_partSet_13 rfl rfl ?_
      refine z_aload_n 15 dX7_partSet_14 rfl rfl ?_
      refine gX7_21 18 rfl dX7_partSet_15 rfl (by first | assumption | rfl) ?_
      refine z_iload_n 19 dX7_partSet_18 rfl rfl ?_
      refine z_ialdn 20 dX7_partSet_19 rfl (by first | assumption | rfl) (by omega) ?_
      rw [hS.2.2 i hil, hg1]
      refine z_ishl 21 dX7_partSet_20 rfl ?_
      rw [zb_shl (by omega)]
      refine z_ior 22 dX7_partSet_21 rfl ?_
      rw [zb_or]
      refine zs_istore_n_1_3 23 rfl dX7_partSet_22 rfl rfl ?_
      refine zs_iinc_2_3_1 26 rfl dX7_partSet_23 rfl rfl ?_
      rw [nI_add]
      refine z_goto 4 dX7_partSet_26 rfl ?_
      exact ih (i + 1) (by omega) (by omega)
  refine z_iconst 1 (v := nI 0) dX7_partSet_0 rfl rfl ?_
  refine zs_istore_n_1_3 2 rfl dX7_partSet_1 rfl rfl ?_
  refine z_iconst 3 (v := nI 0) dX7_partSet_2 rfl rfl ?_
  refine zs_istore_n_2_3 4 rfl dX7_partSet_3 rfl rfl ?_
  exact loop 0 (Nat.zero_le _)
set_option maxRecDepth 20000 in
theorem tX2_take {E : zE} {d : Nat} {σ : zM} {a b cap : Nat} {q : Nat × (Nat → Int32)} {g : Nat → Nat} (ha : (kd a).1 = 2) (ha1 : kd (a + 1) = (11, 6)) (hk : (kd b).1 = 7) (hk1 : kd (b + 1) = (11, cap)) (hS : Sh σ b cap (some q)) (h6 : q.1 ≤ 6) (hg : ∀ i, i < q.1 → q.2 i = nI (g i)) : Ret E mX2_take (d + 2) [zr E a, zr E b] σ (qV fun τ => Fr (fun x y => x = a ∧ y = 1 ∨ x = a + 1) σ τ ∧ DrG τ a q.1 g) := by
  have hc := cap_lt hk1
  have hba : b ≠ a := by rintro rfl; rw [ha] at hk; exact absurd hk (by decide)
  have hba1 : b ≠ a + 1 := by rintro rfl; rw [ha1] at hk; exact absurd (show (11 : Nat) = 7 from hk) (by decide)
  have hba2 : b + 1 ≠ a := by rintro rfl; rw [hk1] at ha; exact absurd (show (11 : Nat) = 2 from ha) (by decide)
  have hba3 : b + 1 ≠ a + 1 := by omega
  refine Ret.of [some (zr E a), some (zr E b), none] (by decide +kernel) (Nat.le_of_ble_eq_true rfl) rfl ?_
  have loop : ∀ i, i ≤ q.1 → ∀ τ, Fr (fun x y => x = a ∧ y = 1 ∨ x = a + 1) σ τ → DrG τ a i g → At E mX2_take (d + 2) (qV fun τ => Fr (fun x y => x = a ∧ y = 1 ∨ x = a + 1) σ τ ∧ DrG τ a q.1 g) 7 [some (zr E a), some (zr E b), some (.int (nI i))] [] τ := by
    refine z_up (fun i hi ih τ hF hD => ?_)
    have hST : Sh τ b cap (some q) := hS.fr hF (by omega) (by intros; omega)
    have hs : gi τ b 1 = nI q.1 := hST.2.1
    by_cases hiq : i = q.1
    · subst hiq
      refine z_iload_n 8 dX2_take_7 rfl rfl ?_
      refine z_aload_n 9 dX2_take_8 rfl rfl ?_
      refine gX2_19 12 rfl dX2_take_9 rfl (by first | assumption | rfl) ?_
      rw [hs]
      refine z_icmp_ge 36 15 dX2_take_12 (by decide) rfl (fun h12 => ?_) (fun h12 => ?_)
      · (try rw [nI_leI (by omega) (by omega)] at h12)
        refine z_rv dX2_take_36 rfl ?_
        exact ⟨hF, hD⟩
      · (try rw [nI_leI (by omega) (by omega)] at h12)
        omega
    · have hilt : i < q.1 := by omega
      refine z_iload_n 8 dX2_take_7 rfl rfl ?_
      refine z_aload_n 9 dX2_take_8 rfl rfl ?_
      refine gX2_19 12 rfl dX2_take_9 rfl (by first | assumption | rfl) ?_
      rw [hs]
      refine z_icmp_ge 36 15 dX2_take_12 (by decide) rfl (fun h12 => ?_) (fun h12 => ?_)
      · (try rw [nI_leI (by omega) (by omega)] at h12)
        omega
      · (try rw [nI_leI (by omega) (by omega)] at h12)
        refine z_iload_n 16 dX2_take_15 rfl rfl ?_
        refine z_bipush 18 (v := nI 6) dX2_take_16 rfl rfl ?_
        refine z_icmp_ge 36 21 dX2_take_18 (by decide) rfl (fun h18 => ?_) (fun h18 => ?_)
        · (try rw [nI_leI (by omega) (by omega)] at h18)
          omega
        · (try rw [nI_leI (by omega) (by omega)] at h18)
          refine z_aload_n 22 dX2_take_21 rfl rfl ?_
          refine z_aload_n 23 dX2_take_22 rfl rfl ?_
          refine z_iload_n 24 dX2_take_23 rfl rfl ?_
          refine z_cVI1 27 (tX7_get hk hk1 hST.2.1 hST.1 hilt) kX7_get dX2_take_24 rfl lX2_22 (by first | assumption | rfl) (Nat.le_of_ble_eq_true rfl) ?_
          rintro _ _ ⟨e1, e2⟩
          replace e1 := e1.symm
          replace e2 := e2.symm
          subst e1
          subst e2
          rw [hST.2.2 i hilt, hg i hilt]
          refine z_cVV1 30 (tX2_add ha ha1 hD.1 (by omega)) kX2_add dX2_take_27 rfl lX2_26 (by first | assumption | rfl) (Nat.le_of_ble_eq_true rfl) ?_
          rintro _ e2
          replace e2 := e2.symm
          subst e2
          refine zs_iinc_2_3_1 33 rfl dX2_take_30 rfl rfl ?_
          rw [nI_add]
          refine z_goto 7 dX2_take_33 rfl ?_
          refine ih (i + 1) (by omega) (by omega) _ ((hF.si _ (by omega)).si _ (by omega)) ⟨gi_s1 _ _ _ _, fun k hk => ?_⟩
          rw [gi_s2 _ _ (by omega), gi_si]
          by_cases hki : k = i
          · rw [if_pos ⟨rfl, hki⟩, hki]
          · rw [if_neg (fun z => hki z.2)]; exact hD.2 k (by omega)
  refine z_aload_n 1 dX2_take_0 rfl rfl ?_
  refine z_iconst 2 (v := nI 0) dX2_take_1 rfl rfl ?_
  refine pX2_15 5 rfl dX2_take_2 rfl (by first | assumption | rfl) ?_
  refine z_iconst 6 (v := nI 0) dX2_take_5 rfl rfl ?_
  refine zs_istore_n_2_3 7 rfl dX2_take_6 rfl rfl ?_
  exact loop 0 (Nat.zero_le _) _ (Fr.rf.si _ (Or.inl ⟨rfl, rfl⟩)) ⟨gi_s1 _ _ _ _, fun k hk => absurd hk (Nat.not_lt_zero k)⟩
/-! the same of the reference -/
theorem UB_step {i b : Nat} {f : Nat → Int32} (h : UB i f b) (h2 : inN (f i) b ∧ ∀ j, j < i → f i ≠ f j) : UB (i + 1) f b := fun k hk => by
  by_cases hki : k = i
  · rw [hki]; exact h2
  · exact h k (by omega)
set_option maxRecDepth 20000 in
theorem tX10_askedDrawn {E : zE} {d : Nat} {σ : zM} {S : sS} {r : Nat} (hr : r < 6) (hX : RM S σ) : Ret E mX10_askedDrawn (d + 1) [zr E 102, .int (nI r)] σ (qI fun x τ => x = (if sDf (sR S r) = 0 then nI 0 else -3) ∧ τ = (if sDf (sR S r) = 0 then σ else mMt σ (sDf (sR S r)))) := by
  have hS : mSh σ 104 105 r 40 (sR S r) := hX.1 r hr
  cases ho : sR S r with
  | none =>
    rw [ho] at hS
    have hs : gi σ 104 r = -9 := hS
    refine Ret.of [some (zr E 102), some (.int (nI r)), none, none, none] (by decide +kernel) (Nat.le_of_ble_eq_true rfl) rfl ?_
    refine z_aload_n 1 dX10_askedDrawn_0 rfl rfl ?_
    refine gX10_17 4 rfl dX10_askedDrawn_1 rfl ?_
    refine z_iload_n 5 dX10_askedDrawn_4 rfl rfl ?_
    refine z_ialdn 6 dX10_askedDrawn_5 rfl (by first | assumption | rfl) (by omega) ?_
    rw [hs]
    refine z_if_ge 15 9 dX10_askedDrawn_6 (by decide) rfl (fun h6 => ?_) (fun h6 => ?_)
    · (try rw [nI_ge0 (by omega)] at h6)
      exact absurd h6 (by decide)
    · (try rw [nI_ge0 (by omega)] at h6)
      refine z_aload_n 10 dX10_askedDrawn_9 rfl rfl ?_
      refine z_iconst 11 (v := nI 1) dX10_askedDrawn_10 rfl rfl ?_
      refine z_cVI1 14 (tX10_meets (by omega)) kX10_meets dX10_askedDrawn_11 rfl lX10_99 (by first | assumption | rfl) (Nat.le_of_ble_eq_true rfl) ?_
      rintro _ _ ⟨e1, e2⟩
      replace e1 := e1.symm
      replace e2 := e2.symm
      subst e1
      subst e2
      refine z_ri dX10_askedDrawn_14 rfl ?_
      exact ⟨rfl, rfl⟩
  | some q =>
    rw [ho] at hS
    have h40 := hS.1
    have hs : gi σ 104 r = nI q.1 := hS.2.1
    have e0 : sDf (some q) = if q.1 < 1 ∨ 6 < q.1 then 5 else if UB q.1 q.2 10 then 0 else 3 := rfl
    by_cases hz : q.1 < 1 ∨ 6 < q.1
    · rw [if_pos hz] at e0
      rw [e0]
      refine Ret.of [some (zr E 102), some (.int (nI r)), none, none, none] (by decide +kernel) (Nat.le_of_ble_eq_true rfl) rfl ?_
      refine z_aload_n 1 dX10_askedDrawn_0 rfl rfl ?_
      refine gX10_17 4 rfl dX10_askedDrawn_1 rfl ?_
      refine z_iload_n 5 dX10_askedDrawn_4 rfl rfl ?_
      refine z_ialdn 6 dX10_askedDrawn_5 rfl (by first | assumption | rfl) (by omega) ?_
      rw [hs]
      refine z_if_ge 15 9 dX10_askedDrawn_6 (by decide) rfl (fun h6 => ?_) (fun h6 => ?_)
      · refine z_aload_n 16 dX10_askedDrawn_15 rfl rfl ?_
        refine gX10_17 19 rfl dX10_askedDrawn_16 rfl ?_
        refine z_iload_n 20 dX10_askedDrawn_19 rfl rfl ?_
        try rw [hs]
        refine z_ialdn 21 dX10_askedDrawn_20 rfl (by first | assumption | rfl) (by omega) ?_
        rw [hs]
        refine z_iconst 22 (v := nI 1) dX10_askedDrawn_21 rfl rfl ?_
        refine z_bipush 24 (v := nI 6) dX10_askedDrawn_22 rfl rfl ?_
        refine z_cSI3 27 (tX10_in) kX10_in dX10_askedDrawn_24 rfl lX10_91 (Nat.le_of_ble_eq_true rfl) ?_
        rintro _ _ ⟨e1, e2⟩
        replace e1 := e1.symm
        replace e2 := e2.symm
        subst e1
        subst e2
        refine z_ifb_ne 36 30 dX10_askedDrawn_27 (by decide) rfl (fun h27 => ?_) (fun h27 => ?_)
        · rw [nI_leI (by decide) (by omega), nI_leI (by omega) (by decide)] at h27
          omega
        · refine z_aload_n 31 dX10_askedDrawn_30 rfl rfl ?_
          refine z_iconst 32 (v := nI 5) dX10_askedDrawn_31 rfl rfl ?_
          refine z_cVI1 35 (tX10_meets (by omega)) kX10_meets dX10_askedDrawn_32 rfl lX10_99 (by first | assumption | rfl) (Nat.le_of_ble_eq_true rfl) ?_
          rintro _ _ ⟨e1, e2⟩
          replace e1 := e1.symm
          replace e2 := e2.symm
          subst e1
          subst e2
          refine z_ri dX10_askedDrawn_35 rfl ?_
          exact ⟨rfl, rfl⟩
      · exact absurd (nI_pos' (by omega)) h6
    · rw [if_neg hz] at e0
      refine Ret.of [some (zr E 102), some (.int (nI r)), none, none, none] (by decide +kernel) (Nat.le_of_ble_eq_true rfl) rfl ?_
      have outer : ∀ i, i ≤ q.1 → UB i q.2 10 → At E mX10_askedDrawn (d + 1) (qI fun x τ => x = (if sDf (some q) = 0 then nI 0 else -3) ∧ τ = (if sDf (some q) = 0 then σ else mMt σ (sDf (some q)))) 38 [some (zr E 102), some (.int (nI r)), some (.int (nI i)), none, none] [] σ := by
        refine z_up (fun i hi oh hU => ?_)
        by_cases hiq : i = q.1
        · subst hiq
          rw [if_pos hU] at e0
          rw [e0]
          refine z_iload_n 39 dX10_askedDrawn_38 rfl rfl ?_
          refine z_aload_n 40 dX10_askedDrawn_39 rfl rfl ?_
          refine gX10_17 43 rfl dX10_askedDrawn_40 rfl ?_
          refine z_iload_n 44 dX10_askedDrawn_43 rfl rfl ?_
          refine z_ialdn 45 dX10_askedDrawn_44 rfl (by first | assumption | rfl) (by omega) ?_
          rw [hs]
          refine z_icmp_ge 118 48 dX10_askedDrawn_45 (by decide) rfl (fun h45 => ?_) (fun h45 => ?_)
          · (try rw [nI_leI (by omega) (by omega)] at h45)
            refine z_iconst 119 (v := nI 0) dX10_askedDrawn_118 rfl rfl ?_
            refine z_ri dX10_askedDrawn_119 rfl ?_
            exact ⟨rfl, rfl⟩
          · (try rw [nI_leI (by omega) (by omega)] at h45)
            omega
        · have hilt : i < q.1 := by omega
          have inner : ∀ j, j ≤ i → At E mX10_askedDrawn (d + 1) (qI fun x τ => x = (if sDf (some q) = 0 then nI 0 else -3) ∧ τ = (if sDf (some q) = 0 then σ else mMt σ (sDf (some q)))) 64 [some (zr E 102), some (.int (nI r)), some (.int (nI i)), some (.int (bI (decide (inN (q.2 i) 10 ∧ ∀ k, k < j → q.2 i ≠ q.2 k)))), some (.int (nI j))] [] σ := by
            refine z_up (fun j hj ih => ?_)
            by_cases hji : j = i
            · subst hji
              refine z_iload 66 dX10_askedDrawn_64 rfl rfl ?_
              refine z_iload_n 67 dX10_askedDrawn_66 rfl rfl ?_
              refine z_icmp_ge 102 70 dX10_askedDrawn_67 (by decide) rfl (fun h67 => ?_) (fun h67 => ?_)
              · (try rw [nI_leI (by omega) (by omega)] at h67)
                refine z_iload_n 103 dX10_askedDrawn_102 rfl rfl ?_
                refine z_ifb_ne 112 106 dX10_askedDrawn_103 (by decide) rfl (fun h103 => ?_) (fun h103 => ?_)
                · refine zs_iinc_2_5_1 115 rfl dX10_askedDrawn_112 rfl rfl ?_
                  rw [nI_add]
                  refine z_goto 38 dX10_askedDrawn_115 rfl ?_
                  exact zf_3_5 (zf_4_5 (oh (j + 1) (by omega) (by omega) (UB_step hU h103)))
                · have hn : ¬ UB q.1 q.2 10 := fun z => h103 (z j hilt)
                  rw [if_neg hn] at e0
                  rw [e0]
                  refine z_aload_n 107 dX10_askedDrawn_106 rfl rfl ?_
                  refine z_iconst 108 (v := nI 3) dX10_askedDrawn_107 rfl rfl ?_
                  refine z_cVI1 111 (tX10_meets (by omega)) kX10_meets dX10_askedDrawn_108 rfl lX10_99 (by first | assumption | rfl) (Nat.le_of_ble_eq_true rfl) ?_
                  rintro _ _ ⟨e1, e2⟩
                  replace e1 := e1.symm
                  replace e2 := e2.symm
                  subst e1
                  subst e2
                  refine z_ri dX10_askedDrawn_111 rfl ?_
                  exact ⟨rfl, rfl⟩
              · (try rw [nI_leI (by omega) (by omega)] at h67)
                omega
            · have hjlt : j < i := by omega
              have fin0 : ¬ (inN (q.2 i) 10 ∧ ∀ k, k < j + 1 → q.2 i ≠ q.2 k) → At E mX10_askedDrawn (d + 1) (qI fun x τ => x = (if sDf (some q) = 0 then nI 0 else -3) ∧ τ = (if sDf (some q) = 0 then σ else mMt σ (sDf (some q)))) 94 [some (zr E 102), some (.int (nI r)), some (.int (nI i)), some (.int (bI (decide (inN (q.2 i) 10 ∧ ∀ k, k < j → q.2 i ≠ q.2 k)))), some (.int (nI j))] [] σ := by
                intro hh
                refine z_iconst 95 (v := nI 0) dX10_askedDrawn_94 rfl rfl ?_
                refine zs_istore_n_3_5 96 rfl dX10_askedDrawn_95 rfl rfl ?_
                refine zs_iinc_4_5_1 99 rfl dX10_askedDrawn_96 rfl rfl ?_
                rw [nI_add]
                refine z_goto 64 dX10_askedDrawn_99 rfl ?_
                have := ih (j + 1) (by omega) (by omega)
                rw [← bI_f hh] at this
                exact this
              have fin1 : (inN (q.2 i) 10 ∧ ∀ k, k < j + 1 → q.2 i ≠ q.2 k) → At E mX10_askedDrawn (d + 1) (qI fun x τ => x = (if sDf (some q) = 0 then nI 0 else -3) ∧ τ = (if sDf (some q) = 0 then σ else mMt σ (sDf (some q)))) 90 [some (zr E 102), some (.int (nI r)), some (.int (nI i)), some (.int (bI (decide (inN (q.2 i) 10 ∧ ∀ k, k < j → q.2 i ≠ q.2 k)))), some (.int (nI j))] [] σ := by
                intro hh
                refine z_iconst 91 (v := nI 1) dX10_askedDrawn_90 rfl rfl ?_
                refine z_goto 95 dX10_askedDrawn_91 rfl ?_
                refine zs_istore_n_3_5 96 rfl dX10_askedDrawn_95 rfl rfl ?_
                refine zs_iinc_4_5_1 99 rfl dX10_askedDrawn_96 rfl rfl ?_
                rw [nI_add]
                refine z_goto 64 dX10_askedDrawn_99 rfl ?_
                have := ih (j + 1) (by omega) (by omega)
                rw [← bI_t hh] at this
                exact this
              refine z_iload 66 dX10_askedDrawn_64 rfl rfl ?_
              refine z_iload_n 67 dX10_askedDrawn_66 rfl rfl ?_
              refine z_icmp_ge 102 70 dX10_askedDrawn_67 (by decide) rfl (fun h67 => ?_) (fun h67 => ?_)
              · (try rw [nI_leI (by omega) (by omega)] at h67)
                omega
              · (try rw [nI_leI (by omega) (by omega)] at h67)
                refine z_iload_n 71 dX10_askedDrawn_70 rfl rfl ?_
                refine z_ifb_eq 94 74 dX10_askedDrawn_71 (by decide) rfl (fun h71 => ?_) (fun h71 => ?_)
                · exact fin0 (fun z => h71 ⟨z.1, fun k hk => z.2 k (by omega)⟩)
                · refine z_aload_n 75 dX10_askedDrawn_74 rfl rfl ?_
                  refine z_iload_n 76 dX10_askedDrawn_75 rfl rfl ?_
                  refine z_iload_n 77 dX10_askedDrawn_76 rfl rfl ?_
                  refine z_cVI2 80 (tX10_rowAt (by omega) (by omega)) kX10_rowAt dX10_askedDrawn_77 rfl lX10_113 (by first | assumption | rfl) (Nat.le_of_ble_eq_true rfl) ?_
                  rintro _ _ ⟨e1, e2⟩
                  replace e1 := e1.symm
                  replace e2 := e2.symm
                  subst e1
                  subst e2
                  refine z_aload_n 81 dX10_askedDrawn_80 rfl rfl ?_
                  refine z_iload_n 82 dX10_askedDrawn_81 rfl rfl ?_
                  refine z_iload 84 dX10_askedDrawn_82 rfl rfl ?_
                  refine z_cVI2 87 (tX10_rowAt (by omega) (by omega)) kX10_rowAt dX10_askedDrawn_84 rfl lX10_113 (by first | assumption | rfl) (Nat.le_of_ble_eq_true rfl) ?_
                  rintro _ _ ⟨e1, e2⟩
                  replace e1 := e1.symm
                  replace e2 := e2.symm
                  subst e1
                  subst e2
                  rw [hS.2.2 i hilt, hS.2.2 j (by omega)]
                  refine z_icmp_eq 94 90 dX10_askedDrawn_87 (by decide) rfl (fun h87 => ?_) (fun h87 => ?_)
                  · exact fin0 (fun z => z.2 j (by omega) h87)
                  · refine fin1 ⟨h71.1, fun k hk => ?_⟩
                    by_cases hkj : k = j
                    · rw [hkj]; exact h87
                    · exact h71.2 k (by omega)
          refine z_iload_n 39 dX10_askedDrawn_38 rfl rfl ?_
          refine z_aload_n 40 dX10_askedDrawn_39 rfl rfl ?_
          refine gX10_17 43 rfl dX10_askedDrawn_40 rfl ?_
          refine z_iload_n 44 dX10_askedDrawn_43 rfl rfl ?_
          refine z_ialdn 45 dX10_askedDrawn_44 rfl (by first | assumption | rfl) (by omega) ?_
          rw [hs]
          refine z_icmp_ge 118 48 dX10_askedDrawn_45 (by decide) rfl (fun h45 => ?_) (fun h45 => ?_)
          · (try rw [nI_leI (by omega) (by omega)] at h45)
            omega
          · (try rw [nI_leI (by omega) (by omega)] at h45)
            refine z_aload_n 49 dX10_askedDrawn_48 rfl rfl ?_
            refine z_iload_n 50 dX10_askedDrawn_49 rfl rfl ?_
            refine z_iload_n 51 dX10_askedDrawn_50 rfl rfl ?_
            refine z_cVI2 54 (tX10_rowAt (by omega) (by omega)) kX10_rowAt dX10_askedDrawn_51 rfl lX10_113 (by first | assumption | rfl) (Nat.le_of_ble_eq_true rfl) ?_
            rintro _ _ ⟨e1, e2⟩
            replace e1 := e1.symm
            replace e2 := e2.symm
            subst e1
            subst e2
            rw [hS.2.2 i hilt]
            refine z_iconst 55 (v := nI 0) dX10_askedDrawn_54 rfl rfl ?_
            refine z_bipush 57 (v := nI 9) dX10_askedDrawn_55 rfl rfl ?_
            refine z_cSI3 60 (tX10_in) kX10_in dX10_askedDrawn_57 rfl lX10_91 (Nat.le_of_ble_eq_true rfl) ?_
            rintro _ _ ⟨e1, e2⟩
            replace e1 := e1.symm
            replace e2 := e2.symm
            subst e1
            subst e2
            rw [in_k (by decide)]
            refine zs_istore_n_3_5 61 rfl dX10_askedDrawn_60 rfl rfl ?_
            refine z_iconst 62 (v := nI 0) dX10_askedDrawn_61 rfl rfl ?_
            refine zs_istore_4_5 64 rfl dX10_askedDrawn_62 rfl rfl ?_
            have := inner 0 (Nat.zero_le _)
            rw [bI_c (q := inN (q.2 i) 10) ⟨fun z => z.1, fun z => ⟨z, fun k hk => absurd hk (Nat.not_lt_zero k)⟩⟩] at this
            exact this
      refine z_aload_n 1 dX10_askedDrawn_0 rfl rfl ?_
      refine gX10_17 4 rfl dX10_askedDrawn_1 rfl ?_
      refine z_iload_n 5 dX10_askedDrawn_4 rfl rfl ?_
      refine z_ialdn 6 dX10_askedDrawn_5 rfl (by first | assumption | rfl) (by omega) ?_
      rw [hs]
      refine z_if_ge 15 9 dX10_askedDrawn_6 (by decide) rfl (fun h6 => ?_) (fun h6 => ?_)
      · refine z_aload_n 16 dX10_askedDrawn_15 rfl rfl ?_
        refine gX10_17 19 rfl dX10_askedDrawn_16 rfl ?_
        refine z_iload_n 20 dX10_askedDrawn_19 rfl rfl ?_
        refine z_ialdn 21 dX10_askedDrawn_20 rfl (by first | assumption | rfl) (by omega) ?_
        rw [hs]
        refine z_iconst 22 (v := nI 1) dX10_askedDrawn_21 rfl rfl ?_
        refine z_bipush 24 (v := nI 6) dX10_askedDrawn_22 rfl rfl ?_
        refine z_cSI3 27 (tX10_in) kX10_in dX10_askedDrawn_24 rfl lX10_91 (Nat.le_of_ble_eq_true rfl) ?_
        rintro _ _ ⟨e1, e2⟩
        replace e1 := e1.symm
        replace e2 := e2.symm
        subst e1
        subst e2
        refine z_ifb_ne 36 30 dX10_askedDrawn_27 (by decide) rfl (fun h27 => ?_) (fun h27 => ?_)
        · refine z_iconst 37 (v := nI 0) dX10_askedDrawn_36 rfl rfl ?_
          refine zs_istore_n_2_5 38 rfl dX10_askedDrawn_37 rfl rfl ?_
          exact outer 0 (Nat.zero_le _) (fun i hi => absurd hi (Nat.not_lt_zero i))
        · exact absurd ⟨(nI_leI (by decide) (by omega)).mpr (by omega), (nI_leI (by omega) (by decide)).mpr (by omega)⟩ h27
      · exact absurd (nI_pos' (by omega)) h6
