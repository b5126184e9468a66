/-! rows and texts of the landed code: a Sheet -/
def sPf (o : sRow) (i : Int32) : Nat := match o with
  | none => 1
  | some q => if inN i q.1 then 0 else 2
def sGet (o : sRow) (i : Nat) : Int32 := match o with
  | none => 0
  | some q => q.2 i
def sSet (o : sRow) (i : Nat) (v : Int32) : sRow := match o with
  | none => none
  | some q => some (q.1, zu q.2 i v)
def sSz (o : sRow) : Nat := match o with
  | none => 0
  | some q => q.1
theorem nI_min {x y : Nat} (hx : x < 2 ^ 31) (hy : y < 2 ^ 31) : (if nI y < nI x then nI y else nI x) = nI (min x y) := by
  by_cases h : y < x
  · rw [if_pos (nI_lt h hx), Nat.min_eq_right (Nat.le_of_lt h)]
  · rw [if_neg (nI_nlt (Nat.not_lt.mp h) hy), Nat.min_eq_left (Nat.not_lt.mp h)]
theorem nI_max {x y : Nat} (hx : x < 2 ^ 31) (hy : y < 2 ^ 31) : (if nI x < nI y then nI y else nI x) = nI (max x y) := by
  by_cases h : x < y
  · rw [if_pos (nI_lt h hy), Nat.max_eq_right (Nat.le_of_lt h)]
  · rw [if_neg (nI_nlt (Nat.not_lt.mp h) hx), Nat.max_eq_left (Nat.not_lt.mp h)]
theorem Sh.neg {σ : zM} {a cap : Nat} {o : sRow} (hc : cap < 2 ^ 31) (h : Sh σ a cap o) : gi σ a 1 < 0 ↔ o = none := by
  cases o with
  | none => rw [show gi σ a 1 = -1 from h]; exact ⟨fun _ => rfl, fun _ => by decide⟩
  | some q =>
    rw [h.2.1, nI_lt0 (Nat.lt_of_le_of_lt h.1 hc)]
    simp
theorem cap_lt {a cap : Nat} (h : kd a = (11, cap)) : cap < 2 ^ 31 := by
  have := kd_small a
  rwa [h] at this
theorem tX7_isM {E : zE} {d : Nat} {σ : zM} {a cap : Nat} {o : sRow} (hk : (kd a).1 = 7) (hk1 : kd (a + 1) = (11, cap)) (hS : Sh σ a cap o) : Ret E mX7_isMissing d [zr E a] σ (qI fun x τ => x = bI (decide (o = none)) ∧ τ = σ) :=
  (tX7_isMissing hk).imp (fun v τ h => by
    obtain ⟨x, h1, h2, h3⟩ := h
    exact ⟨x, h1, h2.trans (bI_c (hS.neg (cap_lt hk1))), h3⟩)
set_option maxRecDepth 20000 in
theorem tX7_placeFault {E : zE} {d : Nat} {σ : zM} {a cap : Nat} {o : sRow} {i : Int32} (hk : (kd a).1 = 7) (hk1 : kd (a + 1) = (11, cap)) (hS : Sh σ a cap o) : Ret E mX7_placeFault (d + 1) [zr E a, .int i] σ (qI fun x τ => x = nI (sPf o i) ∧ τ = σ) := by
  have hc := cap_lt hk1
  refine Ret.of [some (zr E a), some (.int i)] (by decide +kernel) (Nat.le_of_ble_eq_true rfl) rfl ?_
  refine z_aload_n 1 dX7_placeFault_0 rfl rfl ?_
  refine z_cVI0 4 (tX7_isM (by first | assumption | rfl) (by first | assumption | rfl) (by first | assumption | rfl)) kX7_isMissing dX7_placeFault_1 rfl lX7_38 (by first | assumption | rfl) (Nat.le_of_ble_eq_true rfl) ?_
  rintro _ _ ⟨e1, e2⟩
  replace e1 := e1.symm
  replace e2 := e2.symm
  subst e1
  subst e2
  refine z_ifb_eq 9 7 dX7_placeFault_4 (by decide) rfl (fun h4 => ?_) (fun h4 => ?_)
  · obtain ⟨q, rfl⟩ := Option.ne_none_iff_exists'.mp h4
    have hS2 : gi σ a 1 = nI q.1 := hS.2.1
    have hq : q.1 < 2 ^ 31 := Nat.lt_of_le_of_lt hS.1 hc
    refine z_aload_n 10 dX7_placeFault_9 rfl rfl ?_
    refine z_iload_n 11 dX7_placeFault_10 rfl rfl ?_
    refine z_cVI1 14 (tX7_has (by first | assumption | rfl)) kX7_has dX7_placeFault_11 rfl lX7_25 (by first | assumption | rfl) (Nat.le_of_ble_eq_true rfl) ?_
    rintro _ _ ⟨e1, e2⟩
    replace e1 := e1.symm
    replace e2 := e2.symm
    subst e1
    subst e2
    refine z_ifb_eq 21 17 dX7_placeFault_14 (by decide) rfl (fun h14 => ?_) (fun h14 => ?_)
    · refine z_iconst 22 (v := nI 2) dX7_placeFault_21 rfl rfl ?_
      refine z_ri dX7_placeFault_22 rfl ?_
      refine ⟨?_, rfl⟩
      show _ = nI (if inN i q.1 then 0 else 2)
      rw [hS2] at h14
      first | (rw [if_pos (inN_t hq (Int32.not_lt.mpr h14.1) (Int32.not_le.mpr h14.2))]) | (rw [if_neg (fun z => h14 ⟨Int32.not_lt.mp z.1, by obtain ⟨j, hj, rfl⟩ := inN_of z; exact nI_lt hj hq⟩)])
    · refine z_iconst 18 (v := nI 0) dX7_placeFault_17 rfl rfl ?_
      refine z_goto 22 dX7_placeFault_18 rfl ?_
      refine z_ri dX7_placeFault_22 rfl ?_
      refine ⟨?_, rfl⟩
      show _ = nI (if inN i q.1 then 0 else 2)
      rw [hS2] at h14
      first | (rw [if_pos (inN_t hq (Int32.not_lt.mpr h14.1) (Int32.not_le.mpr h14.2))]) | (rw [if_neg (fun z => h14 ⟨Int32.not_lt.mp z.1, by obtain ⟨j, hj, rfl⟩ := inN_of z; exact nI_lt hj hq⟩)])
  · subst h4
    refine z_iconst 8 (v := nI 1) dX7_placeFault_7 rfl rfl ?_
    refine z_ri dX7_placeFault_8 rfl ?_
    exact ⟨rfl, rfl⟩
theorem sPf0 {o : sRow} {i : Int32} (h : sPf o i = 0) : ∃ q j, o = some q ∧ j < q.1 ∧ i = nI j := by
  cases o with
  | none => exact absurd (show (1 : Nat) = 0 from h) (by decide)
  | some q =>
    by_cases z : inN i q.1
    · obtain ⟨j, hj, rfl⟩ := inN_of z
      exact ⟨q, j, rfl, hj, rfl⟩
    · have : sPf (some q) i = 2 := if_neg z
      rw [this] at h
      exact absurd h (by decide)
theorem sPf_lt (o : sRow) (i : Int32) : sPf o i < 6 := by
  cases o with
  | none => exact (by decide : (1 : Nat) < 6)
  | some q => unfold sPf; dsimp only; split <;> decide
/-- get where it is there -/
theorem tX7_getS {E : zE} {d : Nat} {σ : zM} {a cap : Nat} {o : sRow} {i : Int32} (hk : (kd a).1 = 7) (hk1 : kd (a + 1) = (11, cap)) (hS : Sh σ a cap o) (h : sPf o i = 0) : Ret E mX7_get (d + 1) [zr E a, .int i] σ (qI fun x τ => x = sGet o i.toNatClampNeg ∧ τ = σ) := by
  obtain ⟨q, j, rfl, hj, rfl⟩ := sPf0 h
  have hc := cap_lt hk1
  refine (tX7_get hk hk1 hS.2.1 hS.1 hj).imp (fun v τ h => ?_)
  obtain ⟨x, h1, h2, h3⟩ := h
  refine ⟨x, h1, ?_, h3⟩
  have h5 := hS.1
  rw [h2, nI_clamp (by omega)]
  exact hS.2.2 j hj
set_option maxRecDepth 20000 in
theorem tX7_set {E : zE} {d : Nat} {σ : zM} {a cap n j : Nat} {v : Int32} (hk : (kd a).1 = 7) (hk1 : kd (a + 1) = (11, cap)) (hs : gi σ a 1 = nI n) (hn : n ≤ cap) (hj : j < n) : Ret E mX7_set (d + 1) [zr E a, .int (nI j), .int v] σ (qV fun τ => τ = si σ (a + 1) j v) := by
  have hc := cap_lt hk1
  refine Ret.of [some (zr E a), some (.int (nI j)), some (.int v)] (by decide +kernel) (Nat.le_of_ble_eq_true rfl) rfl ?_
  refine z_aload_n 1 dX7_set_0 rfl rfl ?_
  refine z_iload_n 2 dX7_set_1 rfl rfl ?_
  refine z_cVI1 5 (tX7_has (by first | assumption | rfl)) kX7_has dX7_set_2 rfl lX7_25 (by first | assumption | rfl) (Nat.le_of_ble_eq_true rfl) ?_
  rintro _ _ ⟨e1, e2⟩
  replace e1 := e1.symm
  replace e2 := e2.symm
  subst e1
  subst e2
  refine z_ifb_eq 15 8 dX7_set_5 (by decide) rfl (fun h5 => ?_) (fun h5 => ?_)
  · exact absurd ⟨nI_pos' (by omega), by rw [hs]; exact nI_lt hj (by omega)⟩ h5
  · refine z_aload_n 9 dX7_set_8 rfl rfl ?_
    refine gX7_21 12 rfl dX7_set_9 rfl (by first | assumption | rfl) ?_
    refine z_iload_n 13 dX7_set_12 rfl rfl ?_
    refine z_iload_n 14 dX7_set_13 rfl rfl ?_
    refine z_iastn 15 dX7_set_14 rfl (by first | assumption | rfl) (by omega) ?_
    refine z_rv dX7_set_15 rfl ?_
    rfl
theorem tX7_setS {E : zE} {d : Nat} {σ : zM} {a cap : Nat} {o : sRow} {i v : Int32} (hk : (kd a).1 = 7) (hk1 : kd (a + 1) = (11, cap)) (hS : Sh σ a cap o) (h : sPf o i = 0) : Ret E mX7_set (d + 1) [zr E a, .int i, .int v] σ (qV fun τ => Fr (fun x y => x = a + 1) σ τ ∧ Sh τ a cap (sSet o i.toNatClampNeg v)) := by
  obtain ⟨q, j, rfl, hj, rfl⟩ := sPf0 h
  have hc := cap_lt hk1
  have h5 := hS.1
  refine (tX7_set hk hk1 hS.2.1 hS.1 hj).imp (fun w τ h => ?_)
  obtain ⟨h1, rfl⟩ := h
  refine ⟨h1, Fr.rf.si _ rfl, ?_⟩
  rw [nI_clamp (by omega)]
  refine ⟨hS.1, ?_, fun i hi => ?_⟩
  · rw [gi_s2 _ _ (by omega)]
    exact hS.2.1
  · rw [gi_si]
    show _ = zu q.2 j v i
    unfold zu
    by_cases hij : i = j
    · rw [if_pos ⟨rfl, hij⟩, if_pos hij]
    · rw [if_neg (fun z => hij z.2), if_neg hij]
      exact hS.2.2 i hi
set_option maxRecDepth 20000 in
theorem tX7_remove {E : zE} {d : Nat} {σ : zM} {a : Nat} (hk : (kd a).1 = 7) : Ret E mX7_remove d [zr E a] σ (qV fun τ => τ = si σ a 1 (-1)) := by
  refine Ret.of [some (zr E a)] (by decide +kernel) (Nat.le_of_ble_eq_true rfl) rfl ?_
  refine z_aload_n 1 dX7_remove_0 rfl rfl ?_
  refine z_iconst 2 (v := (-1)) dX7_remove_1 rfl rfl ?_
  refine pX7_9 5 rfl dX7_remove_2 rfl (by first | assumption | rfl) ?_
  refine z_rv dX7_remove_5 rfl ?_
  rfl
set_option maxRecDepth 20000 in
theorem tX7_renew {E : zE} {d : Nat} {σ : zM} {a cap k : Nat} {v : Int32} (hk : (kd a).1 = 7) (hk1 : kd (a + 1) = (11, cap)) (hn : k ≤ cap) : Ret E mX7_renew d [zr E a, .int (nI k), .int v] σ (qV fun τ => Fr (fun x y => x = a ∧ y = 1 ∨ x = a + 1) σ τ ∧ Sh τ a cap (some (k, fun _ => v))) := by
  have hc := cap_lt hk1
  refine Ret.of [some (zr E a), some (.int (nI k)), some (.int v), none] (by decide +kernel) (Nat.le_of_ble_eq_true rfl) rfl ?_
  have loop : ∀ i, i ≤ k → ∀ τ, Fr (fun x y => x = a ∧ y = 1 ∨ x = a + 1) σ τ → gi τ a 1 = nI k → (∀ j, j < i → gi τ (a + 1) j = v) → At E mX7_renew d (qV fun τ => Fr (fun x y => x = a ∧ y = 1 ∨ x = a + 1) σ τ ∧ Sh τ a cap (some (k, fun _ => v))) 19 [some (zr E a), some (.int (nI k)), some (.int v), some (.int (nI i))] [] τ := by
    refine z_up (fun i hi ih τ hF hs hv => ?_)
    refine z_iload_n 20 dX7_renew_19 rfl rfl ?_
    refine z_aload_n 21 dX7_renew_20 rfl rfl ?_
    refine gX7_9 24 rfl dX7_renew_21 rfl (by first | assumption | rfl) ?_
    rw [hs]
    refine z_icmp_ge 40 27 dX7_renew_24 (by decide) rfl (fun h24 => ?_) (fun h24 => ?_)
    · (try rw [nI_leI (by omega) (by omega)] at h24)
      refine z_rv dX7_renew_40 rfl ?_
      exact ⟨hF, hn, hs, fun j hj => hv j (by omega)⟩
    · (try rw [nI_leI (by omega) (by omega)] at h24)
      refine z_aload_n 28 dX7_renew_27 rfl rfl ?_
      refine gX7_21 31 rfl dX7_renew_28 rfl (by first | assumption | rfl) ?_
      refine z_iload_n 32 dX7_renew_31 rfl rfl ?_
      refine z_iload_n 33 dX7_renew_32 rfl rfl ?_
      refine z_iastn 34 dX7_renew_33 rfl (by first | assumption | rfl) (by omega) ?_
      refine zs_iinc_3_4_1 37 rfl dX7_renew_34 rfl rfl ?_
      rw [nI_add]
      refine z_goto 19 dX7_renew_37 rfl ?_
      refine ih (i + 1) (by omega) (by omega) _ (hF.si _ (Or.inr rfl)) (by rw [gi_s2 _ _ (by omega)]; exact hs) (fun j hj => ?_)
      rw [gi_si]
      by_cases hij : j = i
      · rw [if_pos ⟨rfl, hij⟩]
      · rw [if_neg (fun z => hij z.2)]; exact hv j (by omega)
  refine z_aload_n 1 dX7_renew_0 rfl rfl ?_
  refine z_iconst 2 (v := nI 0) dX7_renew_1 rfl rfl ?_
  refine z_iload_n 3 dX7_renew_2 rfl rfl ?_
  refine z_aload_n 4 dX7_renew_3 rfl rfl ?_
  refine gX7_21 7 rfl dX7_renew_4 rfl (by first | assumption | rfl) ?_
  refine z_alen 8 dX7_renew_7 rfl (by first | assumption | rfl) ?_
  refine z_mmin 11 dX7_renew_8 rfl lX7_29 kM_min_s kM_i kM_min_c (Nat.le_of_ble_eq_true rfl) ?_
  rw [nI_min (by omega) (by omega), Nat.min_eq_left hn]
  refine z_mmax 14 dX7_renew_11 rfl lX7_15 kM_max_s kM_i kM_max_c (Nat.le_of_ble_eq_true rfl) ?_
  rw [nI_max (by omega) (by omega), Nat.max_eq_right (Nat.zero_le k)]
  refine pX7_9 17 rfl dX7_renew_14 rfl (by first | assumption | rfl) ?_
  refine z_iconst 18 (v := nI 0) dX7_renew_17 rfl rfl ?_
  refine zs_istore_n_3_4 19 rfl dX7_renew_18 rfl rfl ?_
  exact loop 0 (Nat.zero_le k) _ (Fr.rf.si _ (Or.inl ⟨rfl, rfl⟩)) (gi_s1 _ _ _ _) (fun j hj => absurd hj (Nat.not_lt_zero j))
theorem cpy0 (f g : Nat → Int32) (n i : Nat) (h : i < n) : va_cpy f g 0 0 n i = f i := by
  unfold va_cpy
  rw [if_pos ⟨Nat.zero_le i, by omega⟩]
  congr 1
  omega
set_option maxRecDepth 20000 in
theorem tX7_take {E : zE} {d : Nat} {σ : zM} {a cap b cb k : Nat} (hk : (kd a).1 = 7) (hk1 : kd (a + 1) = (11, cap)) (hb : kd b = (11, cb)) (hn : k ≤ cap) (hn2 : k ≤ cb) : Ret E mX7_take d [zr E a, zr E b, .int (nI k)] σ (qV fun τ => Fr (fun x y => x = a ∧ y = 1 ∨ x = a + 1) σ τ ∧ Sh τ a cap (some (k, fun i => gi σ b i))) := by
  have hc := cap_lt hk1
  have hc2 := cap_lt hb
  have hab : b ≠ a := by
    rintro rfl
    rw [hb] at hk
    exact absurd (show (11 : Nat) = 7 from hk) (by decide)
  refine Ret.of [some (zr E a), some (zr E b), some (.int (nI k))] (by decide +kernel) (Nat.le_of_ble_eq_true rfl) rfl ?_
  refine z_aload_n 1 dX7_take_0 rfl rfl ?_
  refine z_iconst 2 (v := nI 0) dX7_take_1 rfl rfl ?_
  refine z_iload_n 3 dX7_take_2 rfl rfl ?_
  refine z_aload_n 4 dX7_take_3 rfl rfl ?_
  refine z_alen 5 dX7_take_4 rfl (by first | assumption | rfl) ?_
  refine z_aload_n 6 dX7_take_5 rfl rfl ?_
  refine gX7_21 9 rfl dX7_take_6 rfl (by first | assumption | rfl) ?_
  refine z_alen 10 dX7_take_9 rfl (by first | assumption | rfl) ?_
  refine z_mmin 13 dX7_take_10 rfl lX7_29 kM_min_s kM_i kM_min_c (Nat.le_of_ble_eq_true rfl) ?_
  rw [nI_min (by omega) (by omega)]
  refine z_mmin 16 dX7_take_13 rfl lX7_29 kM_min_s kM_i kM_min_c (Nat.le_of_ble_eq_true rfl) ?_
  rw [nI_min (by omega) (by omega), Nat.min_eq_left (by omega)]
  refine z_mmax 19 dX7_take_16 rfl lX7_15 kM_max_s kM_i kM_max_c (Nat.le_of_ble_eq_true rfl) ?_
  rw [nI_max (by omega) (by omega), Nat.max_eq_right (Nat.zero_le k)]
  refine pX7_9 22 rfl dX7_take_19 rfl (by first | assumption | rfl) ?_
  refine z_aload_n 23 dX7_take_22 rfl rfl ?_
  refine z_iconst 24 (v := nI 0) dX7_take_23 rfl rfl ?_
  refine z_aload_n 25 dX7_take_24 rfl rfl ?_
  refine gX7_21 28 rfl dX7_take_25 rfl (by first | assumption | rfl) ?_
  refine z_iconst 29 (v := nI 0) dX7_take_28 rfl rfl ?_
  refine z_aload_n 30 dX7_take_29 rfl rfl ?_
  refine gX7_9 33 rfl dX7_take_30 rfl (by first | assumption | rfl) ?_
  rw [gi_s1]
  refine z_copy 36 dX7_take_33 rfl lX7_32 kS_n kS_s kS_i hb hk1 (nI_pos (by decide)) (nI_pos (by decide)) (nI_pos (by omega)) (by rw [nI_clamp (by decide), nI_clamp (by omega)]; omega) (by rw [nI_clamp (by decide), nI_clamp (by omega)]; omega) (Nat.le_of_ble_eq_true rfl) ?_
  refine z_rv dX7_take_36 rfl ?_
  refine ⟨(Fr.rf.si _ (Or.inl ⟨rfl, rfl⟩)).sf _ (fun _ => Or.inr rfl), hn, ?_, fun i hi => ?_⟩
  · rw [gi_sf, if_neg (by omega), gi_s1]
  · rw [gi_sf, if_pos rfl, nI_clamp (by decide), nI_clamp (by omega), cpy0 _ _ _ _ hi]; exact gi_s2 _ _ (by omega)
