/-! what is seen: rows, drawings, sets -/
set_option maxRecDepth 20000 in
theorem tX10_rowSet {E : zE} {d : Nat} {σ : zM} {r : Nat} {q : Nat × (Nat → Int32)} {g : Nat → Nat} (hr : r < 6) (hS : mSh σ 104 105 r 40 (some q)) (hg : ∀ i, i < q.1 → q.2 i = nI (g i) ∧ g i < 10) : Ret E mX10_rowSet (d + 1) [zr E 102, .int (nI r)] σ (qI fun x τ => x = nI (pset g q.1) ∧ τ = σ) := by
  have h40 := hS.1
  have hs : gi σ 104 r = nI q.1 := hS.2.1
  refine Ret.of [some (zr E 102), some (.int (nI r)), none, none] (by decide +kernel) (Nat.le_of_ble_eq_true rfl) rfl ?_
  have loop : ∀ i, i ≤ q.1 → At E mX10_rowSet (d + 1) (qI fun x τ => x = nI (pset g q.1) ∧ τ = σ) 4 [some (zr E 102), some (.int (nI r)), some (.int (nI (pset g i))), some (.int (nI i))] [] σ := by
    refine z_up (fun i hi ih => ?_)
    refine z_iload_n 5 dX10_rowSet_4 rfl rfl ?_
    refine z_aload_n 6 dX10_rowSet_5 rfl rfl ?_
    refine gX10_17 9 rfl dX10_rowSet_6 rfl ?_
    refine z_iload_n 10 dX10_rowSet_9 rfl rfl ?_
    refine z_ialdn 11 dX10_rowSet_10 rfl (by first | assumption | rfl) (by omega) ?_
    rw [hs]
    refine z_icmp_ge 31 14 dX10_rowSet_11 (by decide) rfl (fun h11 => ?_) (fun h11 => ?_)
    · (try rw [nI_leI (by omega) (by omega)] at h11)
      have hil : i = q.1 := by omega
      subst hil
      refine z_iload_n 32 dX10_rowSet_31 rfl rfl ?_
      refine z_ri dX10_rowSet_32 rfl ?_
      exact ⟨rfl, rfl⟩
    · (try rw [nI_leI (by omega) (by omega)] at h11)
      have hil : i < q.1 := by omega
      obtain ⟨hg1, hg2⟩ := hg i hil
      refine z_iload_n 15 dX10_rowSet_14 rfl rfl ?_
      refine z_iconst 16 (v := nI 1) dX10_rowSet_15 rfl rfl ?_
      refine z_aload_n 17 dX10_rowSet_16 rfl rfl ?_
      refine z_iload_n 18 dX10_rowSet_17 rfl rfl ?_
      refine z_iload_n 19 dX10_rowSet_18 rfl rfl ?_
      refine z_cVI2 22 (tX10_rowAt (by omega) (by omega)) kX10_rowAt dX10_rowSet_19 rfl lX10_113 (by first | assumption | rfl) (Nat.le_of_ble_eq_true rfl) ?_
      rintro _ _ ⟨e1, e2⟩
      replace e1 := e1.symm
      replace e2 := e2.symm
      subst e1
      subst e2
      rw [hS.2.2 i hil, hg1]
      refine z_ishl 23 dX10_rowSet_22 rfl ?_
      rw [zb_shl (by omega)]
      refine z_ior 24 dX10_rowSet_23 rfl ?_
      rw [zb_or]
      refine zs_istore_n_2_4 25 rfl dX10_rowSet_24 rfl rfl ?_
      refine zs_iinc_3_4_1 28 rfl dX10_rowSet_25 rfl rfl ?_
      rw [nI_add]
      refine z_goto 4 dX10_rowSet_28 rfl ?_
      exact ih (i + 1) (by omega) (by omega)
  refine z_iconst 1 (v := nI 0) dX10_rowSet_0 rfl rfl ?_
  refine zs_istore_n_2_4 2 rfl dX10_rowSet_1 rfl rfl ?_
  refine z_iconst 3 (v := nI 0) dX10_rowSet_2 rfl rfl ?_
  refine zs_istore_n_3_4 4 rfl dX10_rowSet_3 rfl rfl ?_
  exact loop 0 (Nat.zero_le _)
set_option maxRecDepth 20000 in
theorem tX10_seeRow {E : zE} {d : Nat} {σ : zM} {r n : Nat} {q : Nat × (Nat → Int32)} {g : Nat → Nat} (hr : r < 6) (hS : mSh σ 104 105 r 40 (some q)) (hn : n ≤ q.1) (h6 : n ≤ 6) (hg : ∀ i, i < n → q.2 i = nI (g i)) : Ret E mX10_seeRow (d + 1) [zr E 102, .int (nI r), .int (nI n)] σ (qV fun τ => Fr (fun a j => a = 102 ∧ j = 18 ∨ a = 113) σ τ ∧ mDrG τ n g) := by
  have h40 := hS.1
  refine Ret.of [some (zr E 102), some (.int (nI r)), some (.int (nI n)), none] (by decide +kernel) (Nat.le_of_ble_eq_true rfl) rfl ?_
  have loop : ∀ i, i ≤ n → ∀ τ, Fr (fun a j => a = 102 ∧ j = 18 ∨ a = 113) σ τ → gi τ 102 18 = nI n → (∀ k, k < i → gi τ 113 k = nI (g k)) → At E mX10_seeRow (d + 1) (qV fun τ => Fr (fun a j => a = 102 ∧ j = 18 ∨ a = 113) σ τ ∧ mDrG τ n g) 7 [some (zr E 102), some (.int (nI r)), some (.int (nI n)), some (.int (nI i))] [] τ := by
    refine z_up (fun i hi ih τ hF hs hv => ?_)
    by_cases hin : i = n
    · subst hin
      refine z_iload_n 8 dX10_seeRow_7 rfl rfl ?_
      refine z_iload_n 9 dX10_seeRow_8 rfl rfl ?_
      refine z_icmp_ge 30 12 dX10_seeRow_9 (by decide) rfl (fun h9 => ?_) (fun h9 => ?_)
      · (try rw [nI_leI (by omega) (by omega)] at h9)
        refine z_rv dX10_seeRow_30 rfl ?_
        exact ⟨hF, hs, hv⟩
      · (try rw [nI_leI (by omega) (by omega)] at h9)
        omega
    · have hil : i < n := by omega
      refine z_iload_n 8 dX10_seeRow_7 rfl rfl ?_
      refine z_iload_n 9 dX10_seeRow_8 rfl rfl ?_
      refine z_icmp_ge 30 12 dX10_seeRow_9 (by decide) rfl (fun h9 => ?_) (fun h9 => ?_)
      · (try rw [nI_leI (by omega) (by omega)] at h9)
        omega
      · (try rw [nI_leI (by omega) (by omega)] at h9)
        refine z_aload_n 13 dX10_seeRow_12 rfl rfl ?_
        refine gX10_44 16 rfl dX10_seeRow_13 rfl ?_
        refine z_iload_n 17 dX10_seeRow_16 rfl rfl ?_
        refine z_aload_n 18 dX10_seeRow_17 rfl rfl ?_
        refine z_iload_n 19 dX10_seeRow_18 rfl rfl ?_
        refine z_iload_n 20 dX10_seeRow_19 rfl rfl ?_
        refine z_cVI2 23 (tX10_rowAt (by omega) (by omega)) kX10_rowAt dX10_seeRow_20 rfl lX10_113 (by first | assumption | rfl) (Nat.le_of_ble_eq_true rfl) ?_
        rintro _ _ ⟨e1, e2⟩
        replace e1 := e1.symm
        replace e2 := e2.symm
        subst e1
        subst e2
        rw [hF.gi (by omega), hS.2.2 i (by omega), hg i hil]
        refine z_iastn 24 dX10_seeRow_23 rfl (by first | assumption | rfl) (by omega) ?_
        refine zs_iinc_3_4_1 27 rfl dX10_seeRow_24 rfl rfl ?_
        rw [nI_add]
        refine z_goto 7 dX10_seeRow_27 rfl ?_
        refine ih (i + 1) (by omega) (by omega) _ (hF.si _ (by omega)) ((gi_s2 _ _ (by omega)).trans hs) (fun k hk => ?_)
        rw [gi_si]
        by_cases hki : k = i
        · rw [if_pos ⟨rfl, hki⟩, hki]
        · rw [if_neg (fun z => hki z.2)]; exact hv k (by omega)
  refine z_aload_n 1 dX10_seeRow_0 rfl rfl ?_
  refine z_iload_n 2 dX10_seeRow_1 rfl rfl ?_
  refine pX10_178 5 rfl dX10_seeRow_2 rfl ?_
  refine z_iconst 6 (v := nI 0) dX10_seeRow_5 rfl rfl ?_
  refine zs_istore_n_3_4 7 rfl dX10_seeRow_6 rfl rfl ?_
  exact loop 0 (Nat.zero_le _) _ (Fr.rf.si _ (Or.inl ⟨rfl, rfl⟩)) (gi_s1 _ _ _ _) (fun k hk => absurd hk (Nat.not_lt_zero k))
set_option maxRecDepth 20000 in
theorem tX10_seeDrawing {E : zE} {d : Nat} {σ : zM} {n : Nat} {g : Nat → Nat} (h1 : gi σ 102 16 = nI n) (h6 : n ≤ 6) (hg : ∀ i, i < n → gi σ 112 i = nI (g i)) : Ret E mX10_seeDrawing d [zr E 102] σ (qV fun τ => Fr (fun a j => a = 102 ∧ j = 18 ∨ a = 113) σ τ ∧ mDrG τ n g) := by
  refine Ret.of [some (zr E 102), none] (by decide +kernel) (Nat.le_of_ble_eq_true rfl) rfl ?_
  have loop : ∀ i, i ≤ n → ∀ τ, Fr (fun a j => a = 113) σ τ → (∀ k, k < i → gi τ 113 k = nI (g k)) → At E mX10_seeDrawing d (qV fun τ => Fr (fun a j => a = 102 ∧ j = 18 ∨ a = 113) σ τ ∧ mDrG τ n g) 2 [some (zr E 102), some (.int (nI i))] [] τ := by
    refine z_up (fun i hi ih τ hF hv => ?_)
    have hT : gi τ 102 16 = nI n := (hF.gi (by omega)).trans h1
    by_cases hin : i = n
    · subst hin
      refine z_iload_n 3 dX10_seeDrawing_2 rfl rfl ?_
      refine z_aload_n 4 dX10_seeDrawing_3 rfl rfl ?_
      refine gX10_171 7 rfl dX10_seeDrawing_4 rfl ?_
      rw [hT]
      refine z_icmp_ge 28 10 dX10_seeDrawing_7 (by decide) rfl (fun h7 => ?_) (fun h7 => ?_)
      · (try rw [nI_leI (by omega) (by omega)] at h7)
        refine z_aload_n 29 dX10_seeDrawing_28 rfl rfl ?_
        refine z_aload_n 30 dX10_seeDrawing_29 rfl rfl ?_
        refine gX10_171 33 rfl dX10_seeDrawing_30 rfl ?_
        rw [hT]
        refine pX10_178 36 rfl dX10_seeDrawing_33 rfl ?_
        refine z_rv dX10_seeDrawing_36 rfl ?_
        exact ⟨(hF.mono (by intros; omega)).si _ (by omega), gi_s1 _ _ _ _, fun k hk => (gi_s2 _ _ (by omega)).trans (hv k hk)⟩
      · (try rw [nI_leI (by omega) (by omega)] at h7)
        omega
    · have hil : i < n := by omega
      refine z_iload_n 3 dX10_seeDrawing_2 rfl rfl ?_
      refine z_aload_n 4 dX10_seeDrawing_3 rfl rfl ?_
      refine gX10_171 7 rfl dX10_seeDrawing_4 rfl ?_
      rw [hT]
      refine z_icmp_ge 28 10 dX10_seeDrawing_7 (by decide) rfl (fun h7 => ?_) (fun h7 => ?_)
      · (try rw [nI_leI (by omega) (by omega)] at h7)
        omega
      · (try rw [nI_leI (by omega) (by omega)] at h7)
        refine z_aload_n 11 dX10_seeDrawing_10 rfl rfl ?_
        refine gX10_44 14 rfl dX10_seeDrawing_11 rfl ?_
        refine z_iload_n 15 dX10_seeDrawing_14 rfl rfl ?_
        refine z_aload_n 16 dX10_seeDrawing_15 rfl rfl ?_
        refine gX10_41 19 rfl dX10_seeDrawing_16 rfl ?_
        refine z_iload_n 20 dX10_seeDrawing_19 rfl rfl ?_
        refine z_ialdn 21 dX10_seeDrawing_20 rfl (by first | assumption | rfl) (by omega) ?_
        rw [hF.gi (by omega), hg i hil]
        refine z_iastn 22 dX10_seeDrawing_21 rfl (by first | assumption | rfl) (by omega) ?_
        refine zs_iinc_1_2_1 25 rfl dX10_seeDrawing_22 rfl rfl ?_
        rw [nI_add]
        refine z_goto 2 dX10_seeDrawing_25 rfl ?_
        refine ih (i + 1) (by omega) (by omega) _ (hF.si _ rfl) (fun k hk => ?_)
        rw [gi_si]
        by_cases hki : k = i
        · rw [if_pos ⟨rfl, hki⟩, hki]
        · rw [if_neg (fun z => hki z.2)]; exact hv k (by omega)
  refine z_iconst 1 (v := nI 0) dX10_seeDrawing_0 rfl rfl ?_
  refine zs_istore_n_1_2 2 rfl dX10_seeDrawing_1 rfl rfl ?_
  exact loop 0 (Nat.zero_le _) σ Fr.rf (fun k hk => absurd hk (Nat.not_lt_zero k))
theorem dList_len {u : Nat → Nat} {q : sPly} (h1 : 1 ≤ q.2.2.1) (h6 : q.2.2.1 ≤ 6) : (dList u (dMost q)).length ≤ 6 := by
  have := dMost_le h1 h6
  unfold dList
  rw [List.length_take]
  omega
set_option maxRecDepth 20000 in
theorem tX10_see {E : zE} {d : Nat} {σ : zM} {p w bw : Nat} {q : sPly} {u : Nat → Nat → Nat} (hp : p < 9) (hP : mPy σ p q) (hq : PlOK q bw) (hB : mBx σ q.2.1 bw u) (hw : w < bw) (hu : ∀ p, p < 10 → u w p ≤ 9) : Ret E mX10_see (d + 3) [zr E 102, .int (nI p), .int (nI w)] σ (qV fun τ => Fr (fun a j => a = 102 ∧ (j = 16 ∨ j = 18) ∨ a = 112 ∨ a = 113) σ τ ∧ mDr τ 16 112 (dList (u w) (dMost q)) ∧ mDrG τ (dList (u w) (dMost q)).length (fun i => (dList (u w) (dMost q)).getD i 0)) := by
  obtain ⟨q1, q2, q3, q4, q5⟩ := hq
  refine Ret.of [some (zr E 102), some (.int (nI p)), some (.int (nI w))] (by decide +kernel) (Nat.le_of_ble_eq_true rfl) rfl ?_
  refine z_aload_n 1 dX10_see_0 rfl rfl ?_
  refine z_iload_n 2 dX10_see_1 rfl rfl ?_
  refine z_iload_n 3 dX10_see_2 rfl rfl ?_
  refine z_cVV2 6 (tX10_setDrawing hp hP q1 q2 q3 q4 hB hw hu) kX10_setDrawing dX10_see_3 rfl lX10_174 (by first | assumption | rfl) (Nat.le_of_ble_eq_true rfl) ?_
  rintro τ1 ⟨hF1, hD1⟩
  refine z_aload_n 7 dX10_see_6 rfl rfl ?_
  refine z_cVV0 10 (tX10_seeDrawing hD1.1 (dList_len q3 q4) hD1.2) kX10_seeDrawing dX10_see_7 rfl lX10_187 (by first | assumption | rfl) (Nat.le_of_ble_eq_true rfl) ?_
  rintro τ2 ⟨hF2, hD2⟩
  refine z_rv dX10_see_10 rfl ?_
  exact ⟨hF1.tr hF2 (by intros; omega) (by intros; omega), hD1.fr hF2 (by omega) (by intros; omega), hD2⟩
/-- the parts of a set, the least first -/
def bl (s k : Nat) : List Nat := (List.range k).filter (fun i => s.testBit i)
theorem bl_succ (s k : Nat) : bl s (k + 1) = bl s k ++ (if s.testBit k then [k] else []) := by
  unfold bl
  rw [List.range_succ, List.filter_append]
  congr 1
  cases h : s.testBit k <;> simp [h]
theorem bl_len_mono (s : Nat) : ∀ k m, k ≤ m → (bl s k).length ≤ (bl s m).length := by
  intro k m
  induction m with
  | zero => intro h; rw [show k = 0 by omega]; exact Nat.le_refl _
  | succ m ih =>
    intro h
    by_cases hkm : k = m + 1
    · rw [hkm]; exact Nat.le_refl _
    · rw [bl_succ, List.length_append]; have := ih (by omega); omega
theorem bl_mem (s k p : Nat) : p ∈ bl s k ↔ p < k ∧ s.testBit p = true := by
  unfold bl
  rw [List.mem_filter, List.mem_range]
theorem getD_ne {l : List Nat} (h : l.Nodup) {i j : Nat} (hi : i < l.length) (hj : j < i) : l.getD i 0 ≠ l.getD j 0 := by
  intro e
  have := (List.getD_inj hi (show j < l.length by omega) h).mp e
  omega
theorem pts_of {l : List Nat} (h1 : 1 ≤ l.length) (h6 : l.length ≤ 6) (hp : ∀ p ∈ l, p < 10) (hn : l.Nodup) : PtsOK l.length (fun i => l.getD i 0) := ⟨h1, h6, fun i hi => ⟨hp _ (by
  show l.getD i 0 ∈ l
  rw [List.getD_eq_getElem?_getD, List.getElem?_eq_getElem hi]
  exact List.getElem_mem hi), fun j hj => getD_ne hn hi hj⟩⟩
theorem bl_pts {s : Nat} (h0 : ∃ p, p < 10 ∧ s.testBit p = true) (h6 : (bl s 10).length ≤ 6) : PtsOK (bl s 10).length (fun i => (bl s 10).getD i 0) := by
  refine pts_of ?_ h6 (fun p hp => ((bl_mem s 10 p).mp hp).1) (List.Pairwise.filter _ List.nodup_range)
  obtain ⟨p, h1, h2⟩ := h0
  exact List.length_pos_of_mem ((bl_mem s 10 p).mpr ⟨h1, h2⟩)
theorem dList_pts {u : Nat → Nat} {q : sPly} (hu : ∀ p, p < 10 → u p ≤ 9) (h1 : 1 ≤ q.2.2.1) (h6 : q.2.2.1 ≤ 6) (h0 : ∃ p, p < 10 ∧ 0 < u p) : PtsOK (dList u (dMost q)).length (fun i => (dList u (dMost q)).getD i 0) := by
  refine pts_of ?_ (dList_len h1 h6) (fun p hp => dList_lt hu hp) ?_
  · obtain ⟨p, a1, a2⟩ := h0
    have := List.length_pos_of_mem ((dFull_mem hu p).mpr ⟨a1, a2⟩)
    have := dMost_le h1 h6
    unfold dList
    rw [List.length_take]
    omega
  · exact List.Nodup.sublist (List.take_sublist _ _) (dFull_nd hu)
set_option maxRecDepth 20000 in
theorem tX2_takeSet {E : zE} {d : Nat} {σ : zM} {a s : Nat} (ha : (kd a).1 = 2) (ha1 : kd (a + 1) = (11, 6)) (hs : s < 1024) (h6 : (bl s 10).length ≤ 6) : Ret E mX2_takeSet (d + 1) [zr E a, .int (nI s)] σ (qV fun τ => Fr (fun x y => x = a ∧ y = 1 ∨ x = a + 1) σ τ ∧ Dr τ a (bl s 10)) := by
  refine Ret.of [some (zr E a), some (.int (nI s)), none] (by decide +kernel) (Nat.le_of_ble_eq_true rfl) rfl ?_
  have loop : ∀ k, k ≤ 10 → ∀ τ, Fr (fun x y => x = a ∧ y = 1 ∨ x = a + 1) σ τ → Dr τ a (bl s k) → At E mX2_takeSet (d + 1) (qV fun τ => Fr (fun x y => x = a ∧ y = 1 ∨ x = a + 1) σ τ ∧ Dr τ a (bl s 10)) 7 [some (zr E a), some (.int (nI s)), some (.int (nI k))] [] τ := by
    refine z_up (fun k hk ih τ hF hD => ?_)
    by_cases hk10 : k = 10
    · subst hk10
      refine z_iload_n 8 dX2_takeSet_7 rfl rfl ?_
      refine z_bipush 10 (v := nI 10) dX2_takeSet_8 rfl rfl ?_
      refine z_icmp_ge 32 13 dX2_takeSet_10 (by decide) rfl (fun h10 => ?_) (fun h10 => ?_)
      · (try rw [nI_leI (by omega) (by omega)] at h10)
        refine z_rv dX2_takeSet_32 rfl ?_
        exact ⟨hF, hD⟩
      · (try rw [nI_leI (by omega) (by omega)] at h10)
        omega
    · have hbs := bl_succ s k
      have hlm := bl_len_mono s (k + 1) 10 (by omega)
      cases hb : s.testBit k with
      | false =>
        rw [hb] at hbs
        have hbs : bl s (k + 1) = bl s k := by rw [hbs]; exact List.append_nil _
        refine z_iload_n 8 dX2_takeSet_7 rfl rfl ?_
        refine z_bipush 10 (v := nI 10) dX2_takeSet_8 rfl rfl ?_
        refine z_icmp_ge 32 13 dX2_takeSet_10 (by decide) rfl (fun h10 => ?_) (fun h10 => ?_)
        · (try rw [nI_leI (by omega) (by omega)] at h10)
          omega
        · (try rw [nI_leI (by omega) (by omega)] at h10)
          refine z_iload_n 14 dX2_takeSet_13 rfl rfl ?_
          refine z_iload_n 15 dX2_takeSet_14 rfl rfl ?_
          refine z_ishr 16 dX2_takeSet_15 rfl ?_
          refine z_iconst 17 (v := nI 1) dX2_takeSet_16 rfl rfl ?_
          refine z_iand 18 dX2_takeSet_17 rfl ?_
          rw [zb_bit (by omega) (by omega), hb]
          refine z_if_eq 26 21 dX2_takeSet_18 (by decide) rfl (fun h18 => ?_) (fun h18 => ?_)
          · refine zs_iinc_2_3_1 29 rfl dX2_takeSet_26 rfl rfl ?_
            rw [nI_add]
            refine z_goto 7 dX2_takeSet_29 rfl ?_
            exact ih (k + 1) (by omega) (by omega) τ hF (by rw [hbs]; exact hD)
          · exact absurd rfl h18
      | true =>
        rw [hb] at hbs
        have hbs : bl s (k + 1) = bl s k ++ [k] := hbs
        rw [hbs, List.length_append] at hlm
        have hlm : (bl s k).length + 1 ≤ (bl s 10).length := hlm
        refine z_iload_n 8 dX2_takeSet_7 rfl rfl ?_
        refine z_bipush 10 (v := nI 10) dX2_takeSet_8 rfl rfl ?_
        refine z_icmp_ge 32 13 dX2_takeSet_10 (by decide) rfl (fun h10 => ?_) (fun h10 => ?_)
        · (try rw [nI_leI (by omega) (by omega)] at h10)
          omega
        · (try rw [nI_leI (by omega) (by omega)] at h10)
          refine z_iload_n 14 dX2_takeSet_13 rfl rfl ?_
          refine z_iload_n 15 dX2_takeSet_14 rfl rfl ?_
          refine z_ishr 16 dX2_takeSet_15 rfl ?_
          refine z_iconst 17 (v := nI 1) dX2_takeSet_16 rfl rfl ?_
          refine z_iand 18 dX2_takeSet_17 rfl ?_
          rw [zb_bit (by omega) (by omega), hb]
          refine z_if_eq 26 21 dX2_takeSet_18 (by decide) rfl (fun h18 => ?_) (fun h18 => ?_)
          · exact absurd h18 (by decide)
          · refine z_aload_n 22 dX2_takeSet_21 rfl rfl ?_
            refine z_iload_n 23 dX2_takeSet_22 rfl rfl ?_
            refine z_cVV1 26 (tX2_add ha ha1 hD.1 (by omega)) kX2_add dX2_takeSet_23 rfl lX2_26 (by first | assumption | rfl) (Nat.le_of_ble_eq_true rfl) ?_
            rintro _ e2
            replace e2 := e2.symm
            subst e2
            refine zs_iinc_2_3_1 29 rfl dX2_takeSet_26 rfl rfl ?_
            rw [nI_add]
            refine z_goto 7 dX2_takeSet_29 rfl ?_
            exact ih (k + 1) (by omega) (by omega) _ ((hF.si _ (by omega)).si _ (by omega)) (by rw [hbs]; exact hD.add)
  refine z_aload_n 1 dX2_takeSet_0 rfl rfl ?_
  refine z_iconst 2 (v := nI 0) dX2_takeSet_1 rfl rfl ?_
  refine pX2_15 5 rfl dX2_takeSet_2 rfl (by first | assumption | rfl) ?_
  refine z_iconst 6 (v := nI 0) dX2_takeSet_5 rfl rfl ?_
  refine zs_istore_n_2_3 7 rfl dX2_takeSet_6 rfl rfl ?_
  exact loop 0 (by omega) _ (Fr.rf.si _ (Or.inl ⟨rfl, rfl⟩)) ⟨gi_s1 _ _ _ _, fun i hi => absurd hi (Nat.not_lt_zero i)⟩
set_option maxRecDepth 20000 in
theorem tX10_seeSet {E : zE} {d : Nat} {σ : zM} {s : Nat} (hs : s < 1024) (h6 : (bl s 10).length ≤ 6) : Ret E mX10_seeSet d [zr E 102, .int (nI s)] σ (qV fun τ => Fr (fun a j => a = 102 ∧ j = 18 ∨ a = 113) σ τ ∧ mDr τ 18 113 (bl s 10)) := by
  refine Ret.of [some (zr E 102), some (.int (nI s)), none] (by decide +kernel) (Nat.le_of_ble_eq_true rfl) rfl ?_
  have loop : ∀ k, k ≤ 10 → ∀ τ, Fr (fun a j => a = 102 ∧ j = 18 ∨ a = 113) σ τ → mDr τ 18 113 (bl s k) → At E mX10_seeSet d (qV fun τ => Fr (fun a j => a = 102 ∧ j = 18 ∨ a = 113) σ τ ∧ mDr τ 18 113 (bl s 10)) 7 [some (zr E 102), some (.int (nI s)), some (.int (nI k))] [] τ := by
    refine z_up (fun k hk ih τ hF hD => ?_)
    by_cases hk10 : k = 10
    · subst hk10
      refine z_iload_n 8 dX10_seeSet_7 rfl rfl ?_
      refine z_bipush 10 (v := nI 10) dX10_seeSet_8 rfl rfl ?_
      refine z_icmp_ge 48 13 dX10_seeSet_10 (by decide) rfl (fun h10 => ?_) (fun h10 => ?_)
      · (try rw [nI_leI (by omega) (by omega)] at h10)
        refine z_rv dX10_seeSet_48 rfl ?_
        exact ⟨hF, hD⟩
      · (try rw [nI_leI (by omega) (by omega)] at h10)
        omega
    · have hbs := bl_succ s k
      have hlm := bl_len_mono s (k + 1) 10 (by omega)
      have hln := hD.1
      cases hb : s.testBit k with
      | false =>
        rw [hb] at hbs
        have hbs : bl s (k + 1) = bl s k := by rw [hbs]; exact List.append_nil _
        refine z_iload_n 8 dX10_seeSet_7 rfl rfl ?_
        refine z_bipush 10 (v := nI 10) dX10_seeSet_8 rfl rfl ?_
        refine z_icmp_ge 48 13 dX10_seeSet_10 (by decide) rfl (fun h10 => ?_) (fun h10 => ?_)
        · (try rw [nI_leI (by omega) (by omega)] at h10)
          omega
        · (try rw [nI_leI (by omega) (by omega)] at h10)
          refine z_iload_n 14 dX10_seeSet_13 rfl rfl ?_
          refine z_iload_n 15 dX10_seeSet_14 rfl rfl ?_
          refine z_ishr 16 dX10_seeSet_15 rfl ?_
          refine z_iconst 17 (v := nI 1) dX10_seeSet_16 rfl rfl ?_
          refine z_iand 18 dX10_seeSet_17 rfl ?_
          rw [zb_bit (by omega) (by omega), hb]
          refine z_iconst 19 (v := nI 1) dX10_seeSet_18 rfl rfl ?_
          refine z_icmp_ne 42 22 dX10_seeSet_19 (by decide) rfl (fun h19 => ?_) (fun h19 => ?_)
          · refine zs_iinc_2_3_1 45 rfl dX10_seeSet_42 rfl rfl ?_
            rw [nI_add]
            refine z_goto 7 dX10_seeSet_45 rfl ?_
            exact ih (k + 1) (by omega) (by omega) τ hF (by rw [hbs]; exact hD)
          · exact absurd h19 (by decide)
      | true =>
        rw [hb] at hbs
        have hbs : bl s (k + 1) = bl s k ++ [k] := hbs
        rw [hbs, List.length_append] at hlm
        have hlm : (bl s k).length + 1 ≤ (bl s 10).length := hlm
        refine z_iload_n 8 dX10_seeSet_7 rfl rfl ?_
        refine z_bipush 10 (v := nI 10) dX10_seeSet_8 rfl rfl ?_
        refine z_icmp_ge 48 13 dX10_seeSet_10 (by decide) rfl (fun h10 => ?_) (fun h10 => ?_)
        · (try rw [nI_leI (by omega) (by omega)] at h10)
          omega
        · (try rw [nI_leI (by omega) (by omega)] at h10)
          refine z_iload_n 14 dX10_seeSet_13 rfl rfl ?_
          refine z_iload_n 15 dX10_seeSet_14 rfl rfl ?_
          refine z_ishr 16 dX10_seeSet_15 rfl ?_
          refine z_iconst 17 (v := nI 1) dX10_seeSet_16 rfl rfl ?_
          refine z_iand 18 dX10_seeSet_17 rfl ?_
          rw [zb_bit (by omega) (by omega), hb]
          refine z_iconst 19 (v := nI 1) dX10_seeSet_18 rfl rfl ?_
          refine z_icmp_ne 42 22 dX10_seeSet_19 (by decide) rfl (fun h19 => ?_) (fun h19 => ?_)
          · exact absurd rfl h19
          · refine z_aload_n 23 dX10_seeSet_22 rfl rfl ?_
            refine gX10_44 26 rfl dX10_seeSet_23 rfl ?_
            refine z_aload_n 27 dX10_seeSet_26 rfl rfl ?_
            refine gX10_178 30 rfl dX10_seeSet_27 rfl ?_
            rw [hln]
            refine z_iload_n 31 dX10_seeSet_30 rfl rfl ?_
            refine z_iastn 32 dX10_seeSet_31 rfl (by first | assumption | rfl) (by omega) ?_
            refine z_aload_n 33 dX10_seeSet_32 rfl rfl ?_
            refine z_dup 34 dX10_seeSet_33 rfl rfl ?_
            refine gX10_178 37 rfl dX10_seeSet_34 rfl ?_
            rw [gi_s2 _ _ (by omega), hln]
            refine z_iconst 38 (v := nI 1) dX10_seeSet_37 rfl rfl ?_
            refine z_iadd 39 dX10_seeSet_38 rfl ?_
            rw [nI_add]
            refine pX10_178 42 rfl dX10_seeSet_39 rfl ?_
            refine zs_iinc_2_3_1 45 rfl dX10_seeSet_42 rfl rfl ?_
            rw [nI_add]
            refine z_goto 7 dX10_seeSet_45 rfl ?_
            refine ih (k + 1) (by omega) (by omega) _ ((hF.si _ (by omega)).si _ (by omega)) ?_
            rw [hbs]
            refine ⟨by rw [gi_s1, List.length_append]; rfl, fun i hi => ?_⟩
            rw [List.length_append] at hi
            have hi : i < (bl s k).length + 1 := hi
            rw [gi_s2 _ _ (by omega), gi_si]
            by_cases hil : i = (bl s k).length
            · rw [if_pos ⟨rfl, hil⟩, hil]; simp
            · rw [if_neg (fun z => hil z.2), hD.2 i (by omega)]
              congr 1
              rw [List.getD_eq_getElem?_getD, List.getD_eq_getElem?_getD, List.getElem?_append_left (by omega)]
  refine z_aload_n 1 dX10_seeSet_0 rfl rfl ?_
  refine z_iconst 2 (v := nI 0) dX10_seeSet_1 rfl rfl ?_
  refine pX10_178 5 rfl dX10_seeSet_2 rfl ?_
  refine z_iconst 6 (v := nI 0) dX10_seeSet_5 rfl rfl ?_
  refine zs_istore_n_2_3 7 rfl dX10_seeSet_6 rfl rfl ?_
  exact loop 0 (by omega) _ (Fr.rf.si _ (Or.inl ⟨rfl, rfl⟩)) ⟨gi_s1 _ _ _ _, fun i hi => absurd hi (Nat.not_lt_zero i)⟩
