/-! the nearest leaf: machine, held -/
def lfS (S : sS) (e : Nat) : Nat := pset (sLf S e).2.2.2.2.1 (sLf S e).2.2.2.1
def unS (S : sS) (s e : Nat) : Nat := pop (lfS S e ^^^ s)
def nrV (S : sS) (s : Nat) (b : Option Nat) : Nat := match b with
  | none => 11
  | some e => unS S s e
def near (S : sS) (s : Nat) (x : Int32) : Nat → Option Nat
  | 0 => none
  | n + 1 => if (sLf S n).1 = false ∧ ¬ nI n = x ∧ unS S s n < nrV S s (near S s x n) then some n else near S s x n
theorem near_lt {S : sS} {s : Nat} {x : Int32} : ∀ n e, near S s x n = some e → e < n := by
  intro n
  induction n with
  | zero => intro e h; exact absurd h (fun z => nomatch z)
  | succ n ih =>
    intro e h
    rw [near] at h
    by_cases hc : (sLf S n).1 = false ∧ ¬ nI n = x ∧ unS S s n < nrV S s (near S s x n)
    · rw [if_pos hc] at h
      have : n = e := Option.some.inj h
      omega
    · rw [if_neg hc] at h
      have := ih e h
      omega
theorem nrV_le (S : sS) (s : Nat) (b : Option Nat) : nrV S s b ≤ 11 := by
  cases b with
  | none => exact Nat.le_refl _
  | some e => have h := pop_le (lfS S e ^^^ s); show unS S s e ≤ 11; unfold unS; omega
theorem lfS_lt {S : sS} (hW : WF S) {e : Nat} (he : e < sLc S) : lfS S e < 1024 := pset_lt _ 10 _ (fun i hi => ((lfPts hW he).2.2 i hi).1)
set_option maxRecDepth 20000 in
theorem tX9_nearestLeaf {E : zE} {d : Nat} {σ : zM} {S : sS} {s : Nat} {x : Int32} (hW : WF S) (hX : RX S σ) (hs : s < 1024) : Ret E mX9_nearestLeaf (d + 2) [zr E 0, .int (nI s), .int x] σ (qI fun r τ => r = byI (near S s x (sLc S)) ∧ τ = σ) := by
  have h12 := hW.2.2.1
  have hlc : gi σ 0 12 = nI (sLc S) := hX.2.2.2.2.1.1
  refine Ret.of [some (zr E 0), some (.int (nI s)), some (.int x), none, none, none] (by decide +kernel) (Nat.le_of_ble_eq_true rfl) rfl ?_
  have loop : ∀ i, i ≤ sLc S → At E mX9_nearestLeaf (d + 2) (qI fun r τ => r = byI (near S s x (sLc S)) ∧ τ = σ) 10 [some (zr E 0), some (.int (nI s)), some (.int x), some (.int (byI (near S s x i))), some (.int (nI (nrV S s (near S s x i)))), some (.int (nI i))] [] σ := by
    refine z_up (fun i hi ih => ?_)
    by_cases hie : i = sLc S
    · subst hie
      refine z_iload 12 dX9_nearestLeaf_10 rfl rfl ?_
      refine z_aload_n 13 dX9_nearestLeaf_12 rfl rfl ?_
      refine gX9_153 16 rfl dX9_nearestLeaf_13 rfl ?_
      rw [hlc]
      refine z_icmp_ge 76 19 dX9_nearestLeaf_16 (by decide) rfl (fun h16 => ?_) (fun h16 => ?_)
      · (try rw [nI_leI (by omega) (by omega)] at h16)
        refine z_iload_n 77 dX9_nearestLeaf_76 rfl rfl ?_
        refine z_ri dX9_nearestLeaf_77 rfl ?_
        exact ⟨rfl, rfl⟩
      · (try rw [nI_leI (by omega) (by omega)] at h16)
        omega
    · have hil : i < sLc S := by omega
      have hke := kd_e (show i < 12 by omega)
      have hih := ih (i + 1) (by omega) (by omega)
      have hg : gi σ (64 + 3 * i) 1 = bI (sLf S i).1 := (hX.2.2.2.2.1.2 i hil).1
      have u1 : unS S s i ≤ 10 := pop_le _
      have u2 := nrV_le S s (near S s x i)
      have hno : ¬ ((sLf S i).1 = false ∧ ¬ nI i = x ∧ unS S s i < nrV S s (near S s x i)) → near S s x (i + 1) = near S s x i := fun h => if_neg h
      have hye : ((sLf S i).1 = false ∧ ¬ nI i = x ∧ unS S s i < nrV S s (near S s x i)) → near S s x (i + 1) = some i := fun h => if_pos h
      cases hgs : (sLf S i).1 with
      | true =>
        rw [hgs] at hg
        rw [hno (fun z => absurd z.1 (by rw [hgs]; decide))] at hih
        refine z_iload 12 dX9_nearestLeaf_10 rfl rfl ?_
        refine z_aload_n 13 dX9_nearestLeaf_12 rfl rfl ?_
        refine gX9_153 16 rfl dX9_nearestLeaf_13 rfl ?_
        rw [hlc]
        refine z_icmp_ge 76 19 dX9_nearestLeaf_16 (by decide) rfl (fun h16 => ?_) (fun h16 => ?_)
        · (try rw [nI_leI (by omega) (by omega)] at h16)
          omega
        · (try rw [nI_leI (by omega) (by omega)] at h16)
          refine z_aload_n 20 dX9_nearestLeaf_19 rfl rfl ?_
          refine gX9_32 23 rfl dX9_nearestLeaf_20 rfl ?_
          refine z_iload 25 dX9_nearestLeaf_23 rfl rfl ?_
          refine z_aald5 26 dX9_nearestLeaf_25 rfl (by omega) ?_
          refine gX9_350 29 rfl dX9_nearestLeaf_26 rfl (by first | assumption | rfl) ?_
          rw [hg]
          refine z_if_ne 70 32 dX9_nearestLeaf_29 (by decide) rfl (fun h29 => ?_) (fun h29 => ?_)
          · refine zs_iinc_5_6_1 73 rfl dX9_nearestLeaf_70 rfl rfl ?_
            rw [nI_add]
            refine z_goto 10 dX9_nearestLeaf_73 rfl ?_
            exact hih
          · exact absurd h29 (by decide)
      | false =>
        rw [hgs] at hg
        refine z_iload 12 dX9_nearestLeaf_10 rfl rfl ?_
        refine z_aload_n 13 dX9_nearestLeaf_12 rfl rfl ?_
        refine gX9_153 16 rfl dX9_nearestLeaf_13 rfl ?_
        rw [hlc]
        refine z_icmp_ge 76 19 dX9_nearestLeaf_16 (by decide) rfl (fun h16 => ?_) (fun h16 => ?_)
        · (try rw [nI_leI (by omega) (by omega)] at h16)
          omega
        · (try rw [nI_leI (by omega) (by omega)] at h16)
          refine z_aload_n 20 dX9_nearestLeaf_19 rfl rfl ?_
          refine gX9_32 23 rfl dX9_nearestLeaf_20 rfl ?_
          refine z_iload 25 dX9_nearestLeaf_23 rfl rfl ?_
          refine z_aald5 26 dX9_nearestLeaf_25 rfl (by omega) ?_
          refine gX9_350 29 rfl dX9_nearestLeaf_26 rfl (by first | assumption | rfl) ?_
          rw [hg]
          refine z_if_ne 70 32 dX9_nearestLeaf_29 (by decide) rfl (fun h29 => ?_) (fun h29 => ?_)
          · exact absurd rfl h29
          · refine z_iload 34 dX9_nearestLeaf_32 rfl rfl ?_
            refine z_iload_n 35 dX9_nearestLeaf_34 rfl rfl ?_
            refine z_icmp_eq 70 38 dX9_nearestLeaf_35 (by decide) rfl (fun h35 => ?_) (fun h35 => ?_)
            · rw [hno (fun z => z.2.1 h35)] at hih
              refine zs_iinc_5_6_1 73 rfl dX9_nearestLeaf_70 rfl rfl ?_
              rw [nI_add]
              refine z_goto 10 dX9_nearestLeaf_73 rfl ?_
              exact hih
            · refine z_aload_n 39 dX9_nearestLeaf_38 rfl rfl ?_
              refine gX9_32 42 rfl dX9_nearestLeaf_39 rfl ?_
              refine z_iload 44 dX9_nearestLeaf_42 rfl rfl ?_
              refine z_aald5 45 dX9_nearestLeaf_44 rfl (by omega) ?_
              refine z_iload_n 46 dX9_nearestLeaf_45 rfl rfl ?_
              refine z_cVI1 49 (tX3_unlike hW hX hil hs) kX3_unlike dX9_nearestLeaf_46 rfl lX9_341 (by first | assumption | rfl) (Nat.le_of_ble_eq_true rfl) ?_
              rintro _ _ ⟨e1, e2⟩
              replace e1 := e1.symm
              replace e2 := e2.symm
              subst e1
              subst e2
              rw [show pop (pset (sLf S i).2.2.2.2.1 (sLf S i).2.2.2.1 ^^^ s) = unS S s i from rfl]
              refine z_iload 51 dX9_nearestLeaf_49 rfl rfl ?_
              refine z_icmp_ge 70 54 dX9_nearestLeaf_51 (by decide) rfl (fun h51 => ?_) (fun h51 => ?_)
              · (try rw [nI_leI (by omega) (by omega)] at h51)
                rw [hno (fun z => by have := z.2.2; omega)] at hih
                refine zs_iinc_5_6_1 73 rfl dX9_nearestLeaf_70 rfl rfl ?_
                rw [nI_add]
                refine z_goto 10 dX9_nearestLeaf_73 rfl ?_
                exact hih
              · (try rw [nI_leI (by omega) (by omega)] at h51)
                rw [hye ⟨hgs, h35, by omega⟩] at hih
                refine z_aload_n 55 dX9_nearestLeaf_54 rfl rfl ?_
                refine gX9_32 58 rfl dX9_nearestLeaf_55 rfl ?_
                refine z_iload 60 dX9_nearestLeaf_58 rfl rfl ?_
                refine z_aald5 61 dX9_nearestLeaf_60 rfl (by omega) ?_
                refine z_iload_n 62 dX9_nearestLeaf_61 rfl rfl ?_
                refine z_cVI1 65 (tX3_unlike hW hX hil hs) kX3_unlike dX9_nearestLeaf_62 rfl lX9_341 (by first | assumption | rfl) (Nat.le_of_ble_eq_true rfl) ?_
                rintro _ _ ⟨e1, e2⟩
                replace e1 := e1.symm
                replace e2 := e2.symm
                subst e1
                subst e2
                rw [show pop (pset (sLf S i).2.2.2.2.1 (sLf S i).2.2.2.1 ^^^ s) = unS S s i from rfl]
                refine zs_istore_4_6 67 rfl dX9_nearestLeaf_65 rfl rfl ?_
                refine z_iload 69 dX9_nearestLeaf_67 rfl rfl ?_
                refine zs_istore_n_3_6 70 rfl dX9_nearestLeaf_69 rfl rfl ?_
                refine zs_iinc_5_6_1 73 rfl dX9_nearestLeaf_70 rfl rfl ?_
                rw [nI_add]
                refine z_goto 10 dX9_nearestLeaf_73 rfl ?_
                exact hih
  refine z_bipush 2 (v := (-9)) dX9_nearestLeaf_0 rfl rfl ?_
  refine zs_istore_n_3_6 3 rfl dX9_nearestLeaf_2 rfl rfl ?_
  refine z_bipush 5 (v := nI 11) dX9_nearestLeaf_3 rfl rfl ?_
  refine zs_istore_4_6 7 rfl dX9_nearestLeaf_5 rfl rfl ?_
  refine z_iconst 8 (v := nI 0) dX9_nearestLeaf_7 rfl rfl ?_
  refine zs_istore_5_6 10 rfl dX9_nearestLeaf_8 rfl rfl ?_
  exact loop 0 (Nat.zero_le _)
