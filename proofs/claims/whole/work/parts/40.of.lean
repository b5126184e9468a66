/-! whose leaf -/
theorem bI_inj : ∀ {a b : Bool}, bI a = bI b ↔ a = b := by
  intro a b
  cases a <;> cases b <;> decide
abbrev lOf (S : sS) (k : Bool) (p e : Nat) : Prop := (sLf S e).1 = k ∧ (sLf S e).2.1 = p
def lvs (S : sS) (k : Bool) (p : Nat) (n : Nat) : Nat := fsum (fun e => if lOf S k p e then 1 else 0) n
theorem lvs_le (S : sS) (k : Bool) (p n : Nat) : lvs S k p n ≤ n := by
  have h : lvs S k p n ≤ 1 * n := fsum_bd n (fun i _ => by show (if lOf S k p i then 1 else 0) ≤ 1; split <;> omega)
  omega
theorem lfWho {S : sS} (hW : WF S) {e : Nat} (he : e < sLc S) : (sLf S e).2.1 < sPc S := (hW.2.2.2 e he).1
theorem lfWord {S : sS} (hW : WF S) {e : Nat} (he : e < sLc S) : (sLf S e).2.2.1 < sBw S 0 := (hW.2.2.2 e he).2.1
theorem lfPts {S : sS} (hW : WF S) {e : Nat} (he : e < sLc S) : PtsOK (sLf S e).2.2.2.1 (sLf S e).2.2.2.2.1 := by
  obtain ⟨b1, b2, b3, b4, b5, b6⟩ := hW.2.2.2 e he
  exact ⟨b3, b4, b5⟩
set_option maxRecDepth 20000 in
theorem tX3_isOf {E : zE} {d : Nat} {σ : zM} {S : sS} {e p : Nat} {k : Bool} (hW : WF S) (hX : RX S σ) (he : e < sLc S) (hp : p < sPc S) : Ret E mX3_isOf d [zr E (64 + 3 * e), .int (nI p), .int (bI k)] σ (qI fun x τ => x = bI (decide (lOf S k p e)) ∧ τ = σ) := by
  have h8 := hW.2.1.1
  have h12 := hW.2.2.1
  have hk := kd_e (show e < 12 by omega)
  have hwho := lfWho hW he
  obtain ⟨a1, a2, a3, a4, a5, a6, a7⟩ := hX.2.2.2.2.1.2 e he
  have a1 : gi σ (64 + 3 * e) 1 = bI (sLf S e).1 := a1
  have a2 : gi σ (64 + 3 * e) 2 = nI (sLf S e).2.1 := a2
  refine Ret.of [some (zr E (64 + 3 * e)), some (.int (nI p)), some (.int (bI k))] (by decide +kernel) (Nat.le_of_ble_eq_true rfl) rfl ?_
  refine z_aload_n 1 dX3_isOf_0 rfl rfl ?_
  refine gX3_20 4 rfl dX3_isOf_1 rfl (by first | assumption | rfl) ?_
  rw [a2]
  refine z_iload_n 5 dX3_isOf_4 rfl rfl ?_
  refine z_icmp_ne 20 8 dX3_isOf_5 (by decide) rfl (fun h5 => ?_) (fun h5 => ?_)
  · (try rw [nI_eq (by omega) (by omega)] at h5)
    refine z_iconst 21 (v := nI 0) dX3_isOf_20 rfl rfl ?_
    refine z_rz dX3_isOf_21 rfl (by first | exact Or.inl rfl | exact Or.inr rfl | exact bI_01 _ | assumption) ?_
    first | exact ⟨bI_f (fun z => h5 z.2), rfl⟩ | exact ⟨bI_t ⟨h13, by omega⟩, rfl⟩ | exact ⟨bI_f (fun z => h13 z.1), rfl⟩ | exact ⟨bI_f (fun z => by have := z.2; omega), rfl⟩
  · (try rw [nI_eq (by omega) (by omega)] at h5)
    refine z_aload_n 9 dX3_isOf_8 rfl rfl ?_
    refine gX3_16 12 rfl dX3_isOf_9 rfl (by first | assumption | rfl) ?_
    rw [a1]
    refine z_iload_n 13 dX3_isOf_12 rfl rfl ?_
    refine z_icmp_ne 20 16 dX3_isOf_13 (by decide) rfl (fun h13 => ?_) (fun h13 => ?_)
    · rw [bI_inj] at h13
      refine z_iconst 21 (v := nI 0) dX3_isOf_20 rfl rfl ?_
      refine z_rz dX3_isOf_21 rfl (by first | exact Or.inl rfl | exact Or.inr rfl | exact bI_01 _ | assumption) ?_
      first | exact ⟨bI_f (fun z => h5 z.2), rfl⟩ | exact ⟨bI_t ⟨h13, by omega⟩, rfl⟩ | exact ⟨bI_f (fun z => h13 z.1), rfl⟩ | exact ⟨bI_f (fun z => by have := z.2; omega), rfl⟩
    · rw [bI_inj] at h13
      refine z_iconst 17 (v := nI 1) dX3_isOf_16 rfl rfl ?_
      refine z_goto 21 dX3_isOf_17 rfl ?_
      refine z_rz dX3_isOf_21 rfl (by first | exact Or.inl rfl | exact Or.inr rfl | exact bI_01 _ | assumption) ?_
      first | exact ⟨bI_f (fun z => h5 z.2), rfl⟩ | exact ⟨bI_t ⟨h13, by omega⟩, rfl⟩ | exact ⟨bI_f (fun z => h13 z.1), rfl⟩ | exact ⟨bI_f (fun z => by have := z.2; omega), rfl⟩
set_option maxRecDepth 20000 in
theorem tX9_leavesOf {E : zE} {d : Nat} {σ : zM} {S : sS} {p : Nat} {k : Bool} (hW : WF S) (hX : RX S σ) (hp : p < sPc S) : Ret E mX9_leavesOf (d + 1) [zr E 0, .int (nI p), .int (bI k)] σ (qI fun x τ => x = nI (lvs S k p (sLc S)) ∧ τ = σ) := by
  have h12 := hW.2.2.1
  have hlc : gi σ 0 12 = nI (sLc S) := hX.2.2.2.2.1.1
  refine Ret.of [some (zr E 0), some (.int (nI p)), some (.int (bI k)), none, none] (by decide +kernel) (Nat.le_of_ble_eq_true rfl) rfl ?_
  have loop : ∀ i, i ≤ sLc S → At E mX9_leavesOf (d + 1) (qI fun x τ => x = nI (lvs S k p (sLc S)) ∧ τ = σ) 5 [some (zr E 0), some (.int (nI p)), some (.int (bI k)), some (.int (nI (lvs S k p i))), some (.int (nI i))] [] σ := by
    refine z_up (fun i hi ih => ?_)
    by_cases hie : i = sLc S
    · subst hie
      refine z_iload 7 dX9_leavesOf_5 rfl rfl ?_
      refine z_aload_n 8 dX9_leavesOf_7 rfl rfl ?_
      refine gX9_153 11 rfl dX9_leavesOf_8 rfl ?_
      rw [hlc]
      refine z_icmp_ge 38 14 dX9_leavesOf_11 (by decide) rfl (fun h11 => ?_) (fun h11 => ?_)
      · (try rw [nI_leI (by omega) (by omega)] at h11)
        refine z_iload_n 39 dX9_leavesOf_38 rfl rfl ?_
        refine z_ri dX9_leavesOf_39 rfl ?_
        exact ⟨rfl, rfl⟩
      · (try rw [nI_leI (by omega) (by omega)] at h11)
        omega
    · have hil : i < sLc S := by omega
      have hke := kd_e (show i < 12 by omega)
      have hih := ih (i + 1) (by omega) (by omega)
      refine z_iload 7 dX9_leavesOf_5 rfl rfl ?_
      refine z_aload_n 8 dX9_leavesOf_7 rfl rfl ?_
      refine gX9_153 11 rfl dX9_leavesOf_8 rfl ?_
      rw [hlc]
      refine z_icmp_ge 38 14 dX9_leavesOf_11 (by decide) rfl (fun h11 => ?_) (fun h11 => ?_)
      · (try rw [nI_leI (by omega) (by omega)] at h11)
        omega
      · (try rw [nI_leI (by omega) (by omega)] at h11)
        refine z_aload_n 15 dX9_leavesOf_14 rfl rfl ?_
        refine gX9_32 18 rfl dX9_leavesOf_15 rfl ?_
        refine z_iload 20 dX9_leavesOf_18 rfl rfl ?_
        refine z_aald5 21 dX9_leavesOf_20 rfl (by omega) ?_
        refine z_iload_n 22 dX9_leavesOf_21 rfl rfl ?_
        refine z_iload_n 23 dX9_leavesOf_22 rfl rfl ?_
        refine z_cVI2 26 (tX3_isOf hW hX hil hp) kX3_isOf dX9_leavesOf_23 rfl lX9_437 (by first | assumption | rfl) (Nat.le_of_ble_eq_true rfl) ?_
        rintro _ _ ⟨e1, e2⟩
        replace e1 := e1.symm
        replace e2 := e2.symm
        subst e1
        subst e2
        refine z_ifb_eq 32 29 dX9_leavesOf_26 (by decide) rfl (fun h26 => ?_) (fun h26 => ?_)
        · have er : lvs S k p (i + 1) = lvs S k p i := by (show lvs S k p i + (if lOf S k p i then 1 else 0) = _; rw [if_neg h26, Nat.add_zero])
          try rw [nI_add]
          refine zs_iinc_4_5_1 35 rfl dX9_leavesOf_32 rfl rfl ?_
          rw [nI_add]
          refine z_goto 5 dX9_leavesOf_35 rfl ?_
          rw [er] at hih
          exact hih
        · have er : lvs S k p (i + 1) = lvs S k p i + 1 := by (show lvs S k p i + (if lOf S k p i then 1 else 0) = _; rw [if_pos h26])
          refine zs_iinc_3_5_1 32 rfl dX9_leavesOf_29 rfl rfl ?_
          try rw [nI_add]
          refine zs_iinc_4_5_1 35 rfl dX9_leavesOf_32 rfl rfl ?_
          rw [nI_add]
          refine z_goto 5 dX9_leavesOf_35 rfl ?_
          rw [er] at hih
          exact hih
  refine z_iconst 1 (v := nI 0) dX9_leavesOf_0 rfl rfl ?_
  refine zs_istore_n_3_5 2 rfl dX9_leavesOf_1 rfl rfl ?_
  refine z_iconst 3 (v := nI 0) dX9_leavesOf_2 rfl rfl ?_
  refine zs_istore_4_5 5 rfl dX9_leavesOf_3 rfl rfl ?_
  exact loop 0 (Nat.zero_le _)
set_option maxRecDepth 20000 in
theorem tX3_unlike {E : zE} {d : Nat} {σ : zM} {S : sS} {e s : Nat} (hW : WF S) (hX : RX S σ) (he : e < sLc S) (hs : s < 1024) : Ret E mX3_unlike (d + 1) [zr E (64 + 3 * e), .int (nI s)] σ (qI fun x τ => x = nI (pop (pset (sLf S e).2.2.2.2.1 (sLf S e).2.2.2.1 ^^^ s)) ∧ τ = σ) := by
  have h12 := hW.2.2.1
  have hk := kd_e (show e < 12 by omega)
  obtain ⟨a1, a2, a3, a4, a5, a6, a7⟩ := hX.2.2.2.2.1.2 e he
  have a4 : gi σ (64 + 3 * e) 4 = nI (pset (sLf S e).2.2.2.2.1 (sLf S e).2.2.2.1) := a4
  have hpl : pset (sLf S e).2.2.2.2.1 (sLf S e).2.2.2.1 < 2 ^ 10 := pset_lt _ 10 _ (fun i hi => ((lfPts hW he).2.2 i hi).1)
  have hx : pset (sLf S e).2.2.2.2.1 (sLf S e).2.2.2.1 ^^^ s < 1024 := Nat.xor_lt_two_pow (n := 10) hpl hs
  refine Ret.of [some (zr E (64 + 3 * e)), some (.int (nI s))] (by decide +kernel) (Nat.le_of_ble_eq_true rfl) rfl ?_
  refine z_aload_n 1 dX3_unlike_0 rfl rfl ?_
  refine gX3_35 4 rfl dX3_unlike_1 rfl (by first | assumption | rfl) ?_
  rw [a4]
  refine z_iload_n 5 dX3_unlike_4 rfl rfl ?_
  refine z_ixor 6 dX3_unlike_5 rfl ?_
  rw [zb_xor]
  refine z_cSI1 9 (tJ6_bitCount_0f7a4 hx) kJ6_bitCount_0f7a4 dX3_unlike_6 rfl lX3_40 (Nat.le_of_ble_eq_true rfl) ?_
  rintro _ _ ⟨e1, e2⟩
  replace e1 := e1.symm
  replace e2 := e2.symm
  subst e1
  subst e2
  refine z_ri dX3_unlike_9 rfl ?_
  exact ⟨rfl, rfl⟩
/-! the same of the reference -/
set_option maxRecDepth 20000 in
theorem tX10_isLeafOf {E : zE} {d : Nat} {σ : zM} {S : sS} {e p : Nat} {k : Bool} (hW : WF S) (hX : RM S σ) (he : e < sLc S) (hp : p < sPc S) : Ret E mX10_isLeafOf (d + 1) [zr E 102, .int (nI e), .int (bI k), .int (nI p)] σ (qI fun x τ => x = bI (decide (lOf S k p e)) ∧ τ = σ) := by
  have h8 := hW.2.1.1
  have h12 := hW.2.2.1
  have hwho := lfWho hW he
  obtain ⟨a1, a2, a3, a4, a5, a6, a7⟩ := hX.2.2.2.2.1.2 e he
  have a1 : gi σ 124 (12 * e + 0) = bI (sLf S e).1 := a1
  have a2 : gi σ 124 (12 * e + 1) = nI (sLf S e).2.1 := a2
  refine Ret.of [some (zr E 102), some (.int (nI e)), some (.int (bI k)), some (.int (nI p))] (by decide +kernel) (Nat.le_of_ble_eq_true rfl) rfl ?_
  refine z_aload_n 1 dX10_isLeafOf_0 rfl rfl ?_
  refine z_iload_n 2 dX10_isLeafOf_1 rfl rfl ?_
  refine z_iconst 3 (v := nI 0) dX10_isLeafOf_2 rfl rfl ?_
  refine z_cVI2 6 (tX10_leafTells (by omega) (by omega)) kX10_leafTells dX10_isLeafOf_3 rfl lX10_304 (by first | assumption | rfl) (Nat.le_of_ble_eq_true rfl) ?_
  rintro _ _ ⟨e1, e2⟩
  replace e1 := e1.symm
  replace e2 := e2.symm
  subst e1
  subst e2
  rw [a1]
  refine z_iload_n 7 dX10_isLeafOf_6 rfl rfl ?_
  refine z_icmp_ne 24 10 dX10_isLeafOf_7 (by decide) rfl (fun h7 => ?_) (fun h7 => ?_)
  · rw [bI_inj] at h7
    refine z_iconst 25 (v := nI 0) dX10_isLeafOf_24 rfl rfl ?_
    refine z_rz dX10_isLeafOf_25 rfl (by first | exact Or.inl rfl | exact Or.inr rfl | exact bI_01 _ | assumption) ?_
    first | exact ⟨bI_f (fun z => h7 z.1), rfl⟩ | exact ⟨bI_t ⟨h7, by omega⟩, rfl⟩ | exact ⟨bI_f (fun z => h17 z.2), rfl⟩ | exact ⟨bI_f (fun z => by have := z.2; omega), rfl⟩
  · rw [bI_inj] at h7
    refine z_aload_n 11 dX10_isLeafOf_10 rfl rfl ?_
    refine z_iload_n 12 dX10_isLeafOf_11 rfl rfl ?_
    refine z_iconst 13 (v := nI 1) dX10_isLeafOf_12 rfl rfl ?_
    refine z_cVI2 16 (tX10_leafTells (by omega) (by omega)) kX10_leafTells dX10_isLeafOf_13 rfl lX10_304 (by first | assumption | rfl) (Nat.le_of_ble_eq_true rfl) ?_
    rintro _ _ ⟨e1, e2⟩
    replace e1 := e1.symm
    replace e2 := e2.symm
    subst e1
    subst e2
    rw [a2]
    refine z_iload_n 17 dX10_isLeafOf_16 rfl rfl ?_
    refine z_icmp_ne 24 20 dX10_isLeafOf_17 (by decide) rfl (fun h17 => ?_) (fun h17 => ?_)
    · (try rw [nI_eq (by omega) (by omega)] at h17)
      refine z_iconst 25 (v := nI 0) dX10_isLeafOf_24 rfl rfl ?_
      refine z_rz dX10_isLeafOf_25 rfl (by first | exact Or.inl rfl | exact Or.inr rfl | exact bI_01 _ | assumption) ?_
      first | exact ⟨bI_f (fun z => h7 z.1), rfl⟩ | exact ⟨bI_t ⟨h7, by omega⟩, rfl⟩ | exact ⟨bI_f (fun z => h17 z.2), rfl⟩ | exact ⟨bI_f (fun z => by have := z.2; omega), rfl⟩
    · (try rw [nI_eq (by omega) (by omega)] at h17)
      refine z_iconst 21 (v := nI 1) dX10_isLeafOf_20 rfl rfl ?_
      refine z_goto 25 dX10_isLeafOf_21 rfl ?_
      refine z_rz dX10_isLeafOf_25 rfl (by first | exact Or.inl rfl | exact Or.inr rfl | exact bI_01 _ | assumption) ?_
      first | exact ⟨bI_f (fun z => h7 z.1), rfl⟩ | exact ⟨bI_t ⟨h7, by omega⟩, rfl⟩ | exact ⟨bI_f (fun z => h17 z.2), rfl⟩ | exact ⟨bI_f (fun z => by have := z.2; omega), rfl⟩
set_option maxRecDepth 20000 in
theorem tX10_leavesOf {E : zE} {d : Nat} {σ : zM} {S : sS} {p : Nat} {k : Bool} (hW : WF S) (hX : RM S σ) (hp : p < sPc S) : Ret E mX10_leavesOf (d + 2) [zr E 102, .int (bI k), .int (nI p)] σ (qI fun x τ => x = nI (lvs S k p (sLc S)) ∧ τ = σ) := by
  have h12 := hW.2.2.1
  have hlc : gi σ 102 35 = nI (sLc S) := hX.2.2.2.2.1.1
  refine Ret.of [some (zr E 102), some (.int (bI k)), some (.int (nI p)), none, none] (by decide +kernel) (Nat.le_of_ble_eq_true rfl) rfl ?_
  have loop : ∀ i, i ≤ sLc S → At E mX10_leavesOf (d + 2) (qI fun x τ => x = nI (lvs S k p (sLc S)) ∧ τ = σ) 5 [some (zr E 102), some (.int (bI k)), some (.int (nI p)), some (.int (nI (lvs S k p i))), some (.int (nI i))] [] σ := by
    refine z_up (fun i hi ih => ?_)
    by_cases hie : i = sLc S
    · subst hie
      refine z_iload 7 dX10_leavesOf_5 rfl rfl ?_
      refine z_aload_n 8 dX10_leavesOf_7 rfl rfl ?_
      refine gX10_141 11 rfl dX10_leavesOf_8 rfl ?_
      rw [hlc]
      refine z_icmp_ge 39 14 dX10_leavesOf_11 (by decide) rfl (fun h11 => ?_) (fun h11 => ?_)
      · (try rw [nI_leI (by omega) (by omega)] at h11)
        refine z_iload_n 40 dX10_leavesOf_39 rfl rfl ?_
        refine z_ri dX10_leavesOf_40 rfl ?_
        exact ⟨rfl, rfl⟩
      · (try rw [nI_leI (by omega) (by omega)] at h11)
        omega
    · have hil : i < sLc S := by omega
      have hih := ih (i + 1) (by omega) (by omega)
      refine z_iload 7 dX10_leavesOf_5 rfl rfl ?_
      refine z_aload_n 8 dX10_leavesOf_7 rfl rfl ?_
      refine gX10_141 11 rfl dX10_leavesOf_8 rfl ?_
      rw [hlc]
      refine z_icmp_ge 39 14 dX10_leavesOf_11 (by decide) rfl (fun h11 => ?_) (fun h11 => ?_)
      · (try rw [nI_leI (by omega) (by omega)] at h11)
        omega
      · (try rw [nI_leI (by omega) (by omega)] at h11)
        refine z_iload_n 15 dX10_leavesOf_14 rfl rfl ?_
        refine z_aload_n 16 dX10_leavesOf_15 rfl rfl ?_
        refine z_iload 18 dX10_leavesOf_16 rfl rfl ?_
        refine z_iload_n 19 dX10_leavesOf_18 rfl rfl ?_
        refine z_iload_n 20 dX10_leavesOf_19 rfl rfl ?_
        refine z_cVI3 23 (tX10_isLeafOf hW hX hil hp) kX10_isLeafOf dX10_leavesOf_20 rfl lX10_307 (by first | assumption | rfl) (Nat.le_of_ble_eq_true rfl) ?_
        rintro _ _ ⟨e1, e2⟩
        replace e1 := e1.symm
        replace e2 := e2.symm
        subst e1
        subst e2
        refine z_ifb_eq 30 26 dX10_leavesOf_23 (by decide) rfl (fun h23 => ?_) (fun h23 => ?_)
        · have er : lvs S k p (i + 1) = lvs S k p i + 0 := by (show lvs S k p i + (if lOf S k p i then 1 else 0) = _; rw [if_neg h23])
          refine z_iconst 31 (v := nI 0) dX10_leavesOf_30 rfl rfl ?_
          refine z_iadd 32 dX10_leavesOf_31 rfl ?_
          rw [nI_add]
          refine zs_istore_n_3_5 33 rfl dX10_leavesOf_32 rfl rfl ?_
          refine zs_iinc_4_5_1 36 rfl dX10_leavesOf_33 rfl rfl ?_
          rw [nI_add]
          refine z_goto 5 dX10_leavesOf_36 rfl ?_
          rw [er] at hih
          exact hih
        · have er : lvs S k p (i + 1) = lvs S k p i + 1 := by (show lvs S k p i + (if lOf S k p i then 1 else 0) = _; rw [if_pos h23])
          refine z_iconst 27 (v := nI 1) dX10_leavesOf_26 rfl rfl ?_
          refine z_goto 31 dX10_leavesOf_27 rfl ?_
          refine z_iadd 32 dX10_leavesOf_31 rfl ?_
          rw [nI_add]
          refine zs_istore_n_3_5 33 rfl dX10_leavesOf_32 rfl rfl ?_
          refine zs_iinc_4_5_1 36 rfl dX10_leavesOf_33 rfl rfl ?_
          rw [nI_add]
          refine z_goto 5 dX10_leavesOf_36 rfl ?_
          rw [er] at hih
          exact hih
  refine z_iconst 1 (v := nI 0) dX10_leavesOf_0 rfl rfl ?_
  refine zs_istore_n_3_5 2 rfl dX10_leavesOf_1 rfl rfl ?_
  refine z_iconst 3 (v := nI 0) dX10_leavesOf_2 rfl rfl ?_
  refine zs_istore_4_5 5 rfl dX10_leavesOf_3 rfl rfl ?_
  exact loop 0 (Nat.zero_le _)
set_option maxRecDepth 20000 in
theorem tX10_sizeOf {E : zE} {d : Nat} {σ : zM} {x : Nat} (hx : x < 1024) : Ret E mX10_sizeOf d [.int (nI x)] σ (qI fun r τ => r = nI (pop x) ∧ τ = σ) := by
  refine Ret.of [some (.int (nI x)), none, none] (by decide +kernel) (Nat.le_of_ble_eq_true rfl) rfl ?_
  have loop : ∀ i, i ≤ 10 → At E mX10_sizeOf d (qI fun r τ => r = nI (pop x) ∧ τ = σ) 4 [some (.int (nI x)), some (.int (nI (fsum (fun i => if x.testBit i then 1 else 0) i))), some (.int (nI i))] [] σ := by
    refine z_up (fun i hi ih => ?_)
    by_cases hie : i = 10
    · subst hie
      refine z_iload_n 5 dX10_sizeOf_4 rfl rfl ?_
      refine z_bipush 7 (v := nI 10) dX10_sizeOf_5 rfl rfl ?_
      refine z_icmp_ge 24 10 dX10_sizeOf_7 (by decide) rfl (fun h7 => ?_) (fun h7 => ?_)
      · (try rw [nI_leI (by omega) (by omega)] at h7)
        refine z_iload_n 25 dX10_sizeOf_24 rfl rfl ?_
        refine z_ri dX10_sizeOf_25 rfl ?_
        exact ⟨rfl, rfl⟩
      · (try rw [nI_leI (by omega) (by omega)] at h7)
        omega
    · refine z_iload_n 5 dX10_sizeOf_4 rfl rfl ?_
      refine z_bipush 7 (v := nI 10) dX10_sizeOf_5 rfl rfl ?_
      refine z_icmp_ge 24 10 dX10_sizeOf_7 (by decide) rfl (fun h7 => ?_) (fun h7 => ?_)
      · (try rw [nI_leI (by omega) (by omega)] at h7)
        omega
      · (try rw [nI_leI (by omega) (by omega)] at h7)
        refine z_iload_n 11 dX10_sizeOf_10 rfl rfl ?_
        refine z_iload_n 12 dX10_sizeOf_11 rfl rfl ?_
        refine z_iload_n 13 dX10_sizeOf_12 rfl rfl ?_
        refine z_ishr 14 dX10_sizeOf_13 rfl ?_
        refine z_iconst 15 (v := nI 1) dX10_sizeOf_14 rfl rfl ?_
        refine z_iand 16 dX10_sizeOf_15 rfl ?_
        rw [zb_bit (by omega) (by omega)]
        refine z_iadd 17 dX10_sizeOf_16 rfl ?_
        rw [nI_add]
        refine zs_istore_n_1_3 18 rfl dX10_sizeOf_17 rfl rfl ?_
        refine zs_iinc_2_3_1 21 rfl dX10_sizeOf_18 rfl rfl ?_
        rw [nI_add]
        refine z_goto 4 dX10_sizeOf_21 rfl ?_
        exact ih (i + 1) (by omega) (by omega)
  refine z_iconst 1 (v := nI 0) dX10_sizeOf_0 rfl rfl ?_
  refine zs_istore_n_1_3 2 rfl dX10_sizeOf_1 rfl rfl ?_
  refine z_iconst 3 (v := nI 0) dX10_sizeOf_2 rfl rfl ?_
  refine zs_istore_n_2_3 4 rfl dX10_sizeOf_3 rfl rfl ?_
  exact loop 0 (Nat.zero_le _)
