/-! the watch of the landed code -/
def WtC (σ : zM) (s n : Nat) (b : Bool) : Prop := gi σ 19 4 = nI n ∧ gi σ 19 5 = bI b ∧ ∀ x, x < n → gi σ 20 x = nI (blG s x)
theorem WtC.fr {P : Nat → Nat → Prop} {σ τ : zM} {s n : Nat} {b : Bool} (h : WtC σ s n b) (hF : Fr P σ τ) (h1 : ∀ j, ¬ P 19 j) (h2 : ∀ j, ¬ P 20 j) : WtC τ s n b := ⟨(hF.gi (h1 4)).trans h.1, (hF.gi (h1 5)).trans h.2.1, fun x hx => (hF.gi (h2 x)).trans (h.2.2 x hx)⟩
theorem bl_pre (s c : Nat) : ∀ k, ∃ Y, bl s (c + k) = bl s c ++ Y := by
  intro k
  induction k with
  | zero => exact ⟨[], (List.append_nil _).symm⟩
  | succ k ih =>
    obtain ⟨Y, e⟩ := ih
    refine ⟨Y ++ (if s.testBit (c + k) then [c + k] else []), ?_⟩
    show bl s (c + k + 1) = _
    rw [bl_succ, e, List.append_assoc]
theorem bl_at {s c x : Nat} (hc : c ≤ 10) (hx : x < (bl s c).length) : (bl s c).getD x 0 = blG s x := by
  obtain ⟨Y, e⟩ := bl_pre s c (10 - c)
  rw [show c + (10 - c) = 10 by omega] at e
  show _ = (bl s 10).getD x 0
  rw [e, List.getD_eq_getElem?_getD, List.getD_eq_getElem?_getD, List.getElem?_append_left hx]
set_option maxRecDepth 20000 in
theorem tX8_begin {E : zE} {d : Nat} {σ : zM} {s n : Nat} {b : Bool} (hs : s < 1024) (hn : pop s = n) (h6 : n ≤ 6) : Ret E mX8_begin d [zr E 19, .int (nI s), .int (bI b)] σ (qV fun τ => Fr (fun x _ => x = 19 ∨ x = 20 ∨ x = 21) σ τ ∧ WtC τ s n b ∧ ∀ x, x < n → gi τ 21 x = nI x) := by
  have hlen : (bl s 10).length = n := by rw [bl_popS]; exact hn
  refine Ret.of [some (zr E 19), some (.int (nI s)), some (.int (bI b)), none] (by decide +kernel) (Nat.le_of_ble_eq_true rfl) rfl ?_
  have loop : ∀ c, c ≤ 10 → ∀ τ, Fr (fun x _ => x = 19 ∨ x = 20 ∨ x = 21) σ τ → gi τ 19 4 = nI (bl s c).length → gi τ 19 5 = bI b → (∀ x, x < (bl s c).length → gi τ 20 x = nI ((bl s c).getD x 0) ∧ gi τ 21 x = nI x) → At E mX8_begin d (qV fun τ => Fr (fun x _ => x = 19 ∨ x = 20 ∨ x = 21) σ τ ∧ WtC τ s n b ∧ ∀ x, x < n → gi τ 21 x = nI x) 12 [some (zr E 19), some (.int (nI s)), some (.int (bI b)), some (.int (nI c))] [] τ := by
    refine z_up (fun c hc ih τ hF hz hb hv => ?_)
    have hcl := bl_len_mono s c 10 hc
    have done : (bl s c).length = n → Fr (fun x _ => x = 19 ∨ x = 20 ∨ x = 21) σ τ ∧ WtC τ s n b ∧ ∀ x, x < n → gi τ 21 x = nI x := fun e => ⟨hF, ⟨by rw [hz, e], hb, fun x hx => by rw [(hv x (by omega)).1, bl_at hc (by omega)]⟩, fun x hx => (hv x (by omega)).2⟩
    by_cases hce : c = 10
    · have e : (bl s c).length = n := by rw [hce]; exact hlen
      refine z_iload_n 13 dX8_begin_12 rfl rfl ?_
      refine z_bipush 15 (v := nI 10) dX8_begin_13 rfl rfl ?_
      refine z_icmp_ge 74 18 dX8_begin_15 (by decide) rfl (fun h15 => ?_) (fun h15 => ?_)
      · (try rw [nI_leI (by omega) (by omega)] at h15)
        refine z_rv dX8_begin_74 rfl ?_
        exact done e
      · (try rw [nI_leI (by omega) (by omega)] at h15)
        omega
    · have hcl1 := bl_len_mono s (c + 1) 10 (by omega)
      by_cases hbt : s.testBit c = true
      · have hl1 : bl s (c + 1) = bl s c ++ [c] := by rw [bl_succ, if_pos hbt]
        have hl2 : (bl s (c + 1)).length = (bl s c).length + 1 := by rw [hl1, List.length_append]; rfl
        have hih := ih (c + 1) (by omega) (by omega)
        rw [hl2] at hih
        refine z_iload_n 13 dX8_begin_12 rfl rfl ?_
        refine z_bipush 15 (v := nI 10) dX8_begin_13 rfl rfl ?_
        refine z_icmp_ge 74 18 dX8_begin_15 (by decide) rfl (fun h15 => ?_) (fun h15 => ?_)
        · (try rw [nI_leI (by omega) (by omega)] at h15)
          omega
        · (try rw [nI_leI (by omega) (by omega)] at h15)
          refine z_aload_n 19 dX8_begin_18 rfl rfl ?_
          refine gX8_29 22 rfl dX8_begin_19 rfl (by first | assumption | rfl) ?_
          rw [hz]
          refine z_bipush 24 (v := nI 6) dX8_begin_22 rfl rfl ?_
          refine z_icmp_ge 74 27 dX8_begin_24 (by decide) rfl (fun h24 => ?_) (fun h24 => ?_)
          · (try rw [nI_leI (by omega) (by omega)] at h24)
            omega
          · (try rw [nI_leI (by omega) (by omega)] at h24)
            refine z_iload_n 28 dX8_begin_27 rfl rfl ?_
            refine z_iload_n 29 dX8_begin_28 rfl rfl ?_
            refine z_ishr 30 dX8_begin_29 rfl ?_
            refine z_iconst 31 (v := nI 1) dX8_begin_30 rfl rfl ?_
            refine z_iand 32 dX8_begin_31 rfl ?_
            rw [zb_bit (by omega) (by omega), if_pos hbt]
            refine z_if_eq 68 35 dX8_begin_32 (by decide) rfl (fun h32 => ?_) (fun h32 => ?_)
            · (try rw [nI_eq0 (by omega)] at h32)
              omega
            · (try rw [nI_eq0 (by omega)] at h32)
              refine z_aload_n 36 dX8_begin_35 rfl rfl ?_
              refine gX8_9 39 rfl dX8_begin_36 rfl (by first | assumption | rfl) ?_
              refine z_aload_n 40 dX8_begin_39 rfl rfl ?_
              refine gX8_29 43 rfl dX8_begin_40 rfl (by first | assumption | rfl) ?_
              rw [hz]
              refine z_iload_n 44 dX8_begin_43 rfl rfl ?_
              refine z_iastn 45 dX8_begin_44 rfl (by first | assumption | rfl) (by omega) ?_
              refine z_aload_n 46 dX8_begin_45 rfl rfl ?_
              refine gX8_15 49 rfl dX8_begin_46 rfl (by first | assumption | rfl) ?_
              refine z_aload_n 50 dX8_begin_49 rfl rfl ?_
              refine gX8_29 53 rfl dX8_begin_50 rfl (by first | assumption | rfl) ?_
              rw [gi_s2 _ _ (by omega), hz]
              refine z_aload_n 54 dX8_begin_53 rfl rfl ?_
              refine gX8_29 57 rfl dX8_begin_54 rfl (by first | assumption | rfl) ?_
              rw [gi_s2 _ _ (by omega), hz]
              refine z_iastn 58 dX8_begin_57 rfl (by first | assumption | rfl) (by omega) ?_
              refine z_aload_n 59 dX8_begin_58 rfl rfl ?_
              refine z_dup 60 dX8_begin_59 rfl rfl ?_
              refine gX8_29 63 rfl dX8_begin_60 rfl (by first | assumption | rfl) ?_
              rw [gi_s2 _ _ (by omega), gi_s2 _ _ (by omega), hz]
              refine z_iconst 64 (v := nI 1) dX8_begin_63 rfl rfl ?_
              refine z_iadd 65 dX8_begin_64 rfl ?_
              rw [nI_add]
              refine pX8_29 68 rfl dX8_begin_65 rfl (by first | assumption | rfl) ?_
              refine zs_iinc_3_4_1 71 rfl dX8_begin_68 rfl rfl ?_
              rw [nI_add]
              refine z_goto 12 dX8_begin_71 rfl ?_
              refine hih _ (((hF.si _ (by omega)).si _ (by omega)).si _ (by omega)) (gi_s1 _ _ _ _) ((gi_s2 _ _ (by omega)).trans ((gi_s2 _ _ (by omega)).trans ((gi_s2 _ _ (by omega)).trans hb))) (fun x hx => ?_)
              rw [hl1]
              refine ⟨?_, ?_⟩
              · rw [gi_s2 _ _ (by omega), gi_s2 _ _ (by omega), gi_si]
                by_cases e : x = (bl s c).length
                · rw [if_pos ⟨rfl, e⟩, e, show (bl s c ++ [c]).getD (bl s c).length 0 = c from fnL_app2 _ _]
                · rw [if_neg (fun z => e z.2), show (bl s c ++ [c]).getD x 0 = (bl s c).getD x 0 from fnL_app1 (by omega)]
                  exact (hv x (by omega)).1
              · rw [gi_s2 _ _ (by omega), gi_si]
                by_cases e : x = (bl s c).length
                · rw [if_pos ⟨rfl, e⟩, e]
                · rw [if_neg (fun z => e z.2), gi_s2 _ _ (by omega)]
                  exact (hv x (by omega)).2
      · have hl1 : bl s (c + 1) = bl s c := by rw [bl_succ, if_neg hbt, List.append_nil]
        have hih := ih (c + 1) (by omega) (by omega)
        rw [hl1] at hih
        refine z_iload_n 13 dX8_begin_12 rfl rfl ?_
        refine z_bipush 15 (v := nI 10) dX8_begin_13 rfl rfl ?_
        refine z_icmp_ge 74 18 dX8_begin_15 (by decide) rfl (fun h15 => ?_) (fun h15 => ?_)
        · (try rw [nI_leI (by omega) (by omega)] at h15)
          omega
        · (try rw [nI_leI (by omega) (by omega)] at h15)
          refine z_aload_n 19 dX8_begin_18 rfl rfl ?_
          refine gX8_29 22 rfl dX8_begin_19 rfl (by first | assumption | rfl) ?_
          rw [hz]
          refine z_bipush 24 (v := nI 6) dX8_begin_22 rfl rfl ?_
          refine z_icmp_ge 74 27 dX8_begin_24 (by decide) rfl (fun h24 => ?_) (fun h24 => ?_)
          · (try rw [nI_leI (by omega) (by omega)] at h24)
            have e6 : (bl s c).length = n := by omega
            refine z_rv dX8_begin_74 rfl ?_
            exact done e6
          · (try rw [nI_leI (by omega) (by omega)] at h24)
            refine z_iload_n 28 dX8_begin_27 rfl rfl ?_
            refine z_iload_n 29 dX8_begin_28 rfl rfl ?_
            refine z_ishr 30 dX8_begin_29 rfl ?_
            refine z_iconst 31 (v := nI 1) dX8_begin_30 rfl rfl ?_
            refine z_iand 32 dX8_begin_31 rfl ?_
            rw [zb_bit (by omega) (by omega), if_neg hbt]
            refine z_if_eq 68 35 dX8_begin_32 (by decide) rfl (fun h32 => ?_) (fun h32 => ?_)
            · (try rw [nI_eq0 (by omega)] at h32)
              refine zs_iinc_3_4_1 71 rfl dX8_begin_68 rfl rfl ?_
              rw [nI_add]
              refine z_goto 12 dX8_begin_71 rfl ?_
              exact hih τ hF hz hb hv
            · (try rw [nI_eq0 (by omega)] at h32)
              omega
  have hf : Fr (fun x _ => x = 19 ∨ x = 20 ∨ x = 21) σ (si (si σ 19 5 (bI b)) 19 4 (nI 0)) := (Fr.rf.si _ (Or.inl rfl)).si _ (Or.inl rfl)
  refine z_aload_n 1 dX8_begin_0 rfl rfl ?_
  refine z_iload_n 2 dX8_begin_1 rfl rfl ?_
  refine pX8_25 5 rfl dX8_begin_2 rfl (by first | assumption | rfl) (by first | exact Or.inl rfl | exact Or.inr rfl | exact bI_01 _ | assumption) ?_
  refine z_aload_n 6 dX8_begin_5 rfl rfl ?_
  refine z_iconst 7 (v := nI 0) dX8_begin_6 rfl rfl ?_
  refine pX8_29 10 rfl dX8_begin_7 rfl (by first | assumption | rfl) ?_
  refine z_iconst 11 (v := nI 0) dX8_begin_10 rfl rfl ?_
  refine zs_istore_n_3_4 12 rfl dX8_begin_11 rfl rfl ?_
  exact loop 0 (Nat.zero_le _) _ hf (gi_s1 _ _ _ _) ((gi_s2 _ _ (by omega)).trans (gi_s1 _ _ _ _)) (fun x hx => absurd hx (Nat.not_lt_zero x))
set_option maxRecDepth 20000 in
theorem tX8_partsAt {E : zE} {d : Nat} {σ : zM} {s n m : Nat} {b : Bool} (hs : s < 1024) (hn : pop s = n) (h6 : n ≤ 6) (hm1 : 1 ≤ m) (hm : m < 2 ^ n) (hC : WtC σ s n b) : Ret E mX8_partsAt (d + 2) [zr E 19, .int (nI m), zr E 8] σ (qV fun τ => Fr (fun x y => x = 8 ∧ y = 1 ∨ x = 9) σ τ ∧ DrG τ 8 (pop (sM (blG s) m n)) (blG (sM (blG s) m n))) := by
  obtain ⟨k1, k2, k3⟩ := sM_ok hs hn h6 hm1 hm
  have hm64 : m < 64 := Nat.lt_of_lt_of_le hm (Nat.pow_le_pow_right (by decide) h6 : 2 ^ n ≤ 2 ^ 6)
  refine Ret.of [some (zr E 19), some (.int (nI m)), some (zr E 8), none, none] (by decide +kernel) (Nat.le_of_ble_eq_true rfl) rfl ?_
  have loop : ∀ i, i ≤ n → At E mX8_partsAt (d + 2) (qV fun τ => Fr (fun x y => x = 8 ∧ y = 1 ∨ x = 9) σ τ ∧ DrG τ 8 (pop (sM (blG s) m n)) (blG (sM (blG s) m n))) 5 [some (zr E 19), some (.int (nI m)), some (zr E 8), some (.int (nI (sM (blG s) m i))), some (.int (nI i))] [] σ := by
    refine z_up (fun i hi ih => ?_)
    by_cases hie : i = n
    · rw [hie]
      refine z_iload 7 dX8_partsAt_5 rfl rfl ?_
      refine z_aload_n 8 dX8_partsAt_7 rfl rfl ?_
      refine gX8_29 11 rfl dX8_partsAt_8 rfl (by first | assumption | rfl) ?_
      rw [hC.1]
      refine z_icmp_ge 41 14 dX8_partsAt_11 (by decide) rfl (fun h11 => ?_) (fun h11 => ?_)
      · (try rw [nI_leI (by omega) (by omega)] at h11)
        refine z_aload_n 42 dX8_partsAt_41 rfl rfl ?_
        refine z_iload_n 43 dX8_partsAt_42 rfl rfl ?_
        refine z_cVV1 46 (tX2_takeSet (a := 8) rfl rfl k1 (by rw [bl_popS]; exact k3)) kX2_takeSet dX8_partsAt_43 rfl lX8_33 (by first | assumption | rfl) (Nat.le_of_ble_eq_true rfl) ?_
        rintro τ1 ⟨hF1, hD1⟩
        refine z_rv dX8_partsAt_46 rfl ?_
        exact ⟨hF1, by rw [← bl_popS]; exact hD1⟩
      · (try rw [nI_leI (by omega) (by omega)] at h11)
        omega
    · have hil : i < n := by omega
      have hv := (blG_d (s := s) i (by omega)).1
      have hih := ih (i + 1) (by omega) (by omega)
      rw [sM] at hih
      by_cases hbt : m.testBit i = true
      · rw [if_pos hbt] at hih
        refine z_iload 7 dX8_partsAt_5 rfl rfl ?_
        refine z_aload_n 8 dX8_partsAt_7 rfl rfl ?_
        refine gX8_29 11 rfl dX8_partsAt_8 rfl (by first | assumption | rfl) ?_
        rw [hC.1]
        refine z_icmp_ge 41 14 dX8_partsAt_11 (by decide) rfl (fun h11 => ?_) (fun h11 => ?_)
        · (try rw [nI_leI (by omega) (by omega)] at h11)
          omega
        · (try rw [nI_leI (by omega) (by omega)] at h11)
          refine z_iload_n 15 dX8_partsAt_14 rfl rfl ?_
          refine z_iload 17 dX8_partsAt_15 rfl rfl ?_
          refine z_ishr 18 dX8_partsAt_17 rfl ?_
          refine z_iconst 19 (v := nI 1) dX8_partsAt_18 rfl rfl ?_
          refine z_iand 20 dX8_partsAt_19 rfl ?_
          rw [zb_bit (by omega) (by omega), if_pos hbt]
          refine z_if_eq 35 23 dX8_partsAt_20 (by decide) rfl (fun h20 => ?_) (fun h20 => ?_)
          · (try rw [nI_eq0 (by omega)] at h20)
            omega
          · (try rw [nI_eq0 (by omega)] at h20)
            refine z_iload_n 24 dX8_partsAt_23 rfl rfl ?_
            refine z_iconst 25 (v := nI 1) dX8_partsAt_24 rfl rfl ?_
            refine z_aload_n 26 dX8_partsAt_25 rfl rfl ?_
            refine gX8_9 29 rfl dX8_partsAt_26 rfl (by first | assumption | rfl) ?_
            refine z_iload 31 dX8_partsAt_29 rfl rfl ?_
            refine z_ialdn 32 dX8_partsAt_31 rfl (by first | assumption | rfl) (by omega) ?_
            rw [hC.2.2 i hil]
            refine z_ishl 33 dX8_partsAt_32 rfl ?_
            rw [zb_shl (by omega)]
            refine z_ior 34 dX8_partsAt_33 rfl ?_
            rw [zb_or]
            refine zs_istore_n_3_5 35 rfl dX8_partsAt_34 rfl rfl ?_
            refine zs_iinc_4_5_1 38 rfl dX8_partsAt_35 rfl rfl ?_
            rw [nI_add]
            refine z_goto 5 dX8_partsAt_38 rfl ?_
            exact hih
      · rw [if_neg hbt] at hih
        refine z_iload 7 dX8_partsAt_5 rfl rfl ?_
        refine z_aload_n 8 dX8_partsAt_7 rfl rfl ?_
        refine gX8_29 11 rfl dX8_partsAt_8 rfl (by first | assumption | rfl) ?_
        rw [hC.1]
        refine z_icmp_ge 41 14 dX8_partsAt_11 (by decide) rfl (fun h11 => ?_) (fun h11 => ?_)
        · (try rw [nI_leI (by omega) (by omega)] at h11)
          omega
        · (try rw [nI_leI (by omega) (by omega)] at h11)
          refine z_iload_n 15 dX8_partsAt_14 rfl rfl ?_
          refine z_iload 17 dX8_partsAt_15 rfl rfl ?_
          refine z_ishr 18 dX8_partsAt_17 rfl ?_
          refine z_iconst 19 (v := nI 1) dX8_partsAt_18 rfl rfl ?_
          refine z_iand 20 dX8_partsAt_19 rfl ?_
          rw [zb_bit (by omega) (by omega), if_neg hbt]
          refine z_if_eq 35 23 dX8_partsAt_20 (by decide) rfl (fun h20 => ?_) (fun h20 => ?_)
          · (try rw [nI_eq0 (by omega)] at h20)
            refine zs_iinc_4_5_1 38 rfl dX8_partsAt_35 rfl rfl ?_
            rw [nI_add]
            refine z_goto 5 dX8_partsAt_38 rfl ?_
            exact hih
          · (try rw [nI_eq0 (by omega)] at h20)
            omega
  refine z_iconst 1 (v := nI 0) dX8_partsAt_0 rfl rfl ?_
  refine zs_istore_n_3_5 2 rfl dX8_partsAt_1 rfl rfl ?_
  refine z_iconst 3 (v := nI 0) dX8_partsAt_2 rfl rfl ?_
  refine zs_istore_4_5 5 rfl dX8_partsAt_3 rfl rfl ?_
  exact loop 0 (Nat.zero_le _)
set_option maxRecDepth 20000 in
theorem tX8_learn {E : zE} {d : Nat} {σ : zM} {m : Nat} {b : Bool} (hm : m < 64) : Ret E mX8_learn d [zr E 19, .int (nI m), .int (bI b)] σ (qV fun τ => τ = si σ 23 m (bI b)) := by
  refine Ret.of [some (zr E 19), some (.int (nI m)), some (.int (bI b))] (by decide +kernel) (Nat.le_of_ble_eq_true rfl) rfl ?_
  refine z_iload_n 1 dX8_learn_0 rfl rfl ?_
  refine z_if_lt 20 4 dX8_learn_1 (by decide) rfl (fun h1 => ?_) (fun h1 => ?_)
  · (try rw [nI_lt0 (by omega)] at h1)
    exact h1.elim
  · (try rw [nI_lt0 (by omega)] at h1)
    refine z_iload_n 5 dX8_learn_4 rfl rfl ?_
    refine z_aload_n 6 dX8_learn_5 rfl rfl ?_
    refine gX8_21 9 rfl dX8_learn_6 rfl (by first | assumption | rfl) ?_
    refine z_alenZ 10 dX8_learn_9 rfl (by first | assumption | rfl) ?_
    refine z_icmp_ge 20 13 dX8_learn_10 (by decide) rfl (fun h10 => ?_) (fun h10 => ?_)
    · (try rw [nI_leI (by omega) (by omega)] at h10)
      omega
    · (try rw [nI_leI (by omega) (by omega)] at h10)
      refine z_aload_n 14 dX8_learn_13 rfl rfl ?_
      refine gX8_21 17 rfl dX8_learn_14 rfl (by first | assumption | rfl) ?_
      refine z_iload_n 18 dX8_learn_17 rfl rfl ?_
      refine z_iload_n 19 dX8_learn_18 rfl rfl ?_
      refine z_zastn 20 dX8_learn_19 rfl (by first | assumption | rfl) (by omega) (by first | exact Or.inl rfl | exact Or.inr rfl | exact bI_01 _ | assumption) ?_
      refine z_rv dX8_learn_20 rfl ?_
      rfl
def WtK (σ : zM) (S : sS) (p w s n m : Nat) : Prop := ∀ k, 1 ≤ k → k < m → gi σ 23 k = bI (decide (kS S p w (sM (blG s) k n)))
theorem WtK.fr {P : Nat → Nat → Prop} {σ τ : zM} {S : sS} {p w s n m : Nat} (h : WtK σ S p w s n m) (hF : Fr P σ τ) (h1 : ∀ j, ¬ P 23 j) : WtK τ S p w s n m := fun k h2 h3 => (hF.gi (h1 k)).trans (h k h2 h3)
theorem two_n {n : Nat} (h6 : n ≤ 6) : 2 ^ n ≤ 64 := (Nat.pow_le_pow_right (by decide) h6 : 2 ^ n ≤ 2 ^ 6)
set_option maxRecDepth 20000 in
theorem tX8_knownFrom {E : zE} {d : Nat} {σ : zM} {S : sS} {p w s n : Nat} {b : Bool} {l : List Nat} (hs : s < 1024) (hn : pop s = n) (hn1 : 1 ≤ n) (h6 : n ≤ 6) (hC : WtC σ s n b) (hb : b = decide ((sPl S p).1 = 3)) (ho : ∀ x, x < n → gi σ 21 x = nI (fnL l x)) (hl : ∀ x, x < n → fnL l x < n ∧ ∀ y, y < x → fnL l x ≠ fnL l y) (hll : l.length = n) (hk : WtK σ S p w s n (2 ^ n)) : Ret E mX8_knownFrom d [zr E 19] σ (qI fun x τ => x = nI (kfL S p w n (l.map (blG s))) ∧ τ = σ) := by
  have h64 := two_n h6
  have hg : ∀ x, x < n → fnL (l.map (blG s)) x = blG s (fnL l x) := fun x hx => fnL_map (by omega)
  have hgd : ∀ i, i < n → fnL (l.map (blG s)) i < 10 ∧ ∀ j, j < i → fnL (l.map (blG s)) i ≠ fnL (l.map (blG s)) j := fun i hi => by
    rw [hg i hi]
    have h1 := (hl i hi).1
    refine ⟨(blG_d (s := s) _ (by omega)).1, fun j hj e => ?_⟩
    rw [hg j (by omega)] at e
    have h2 := (hl j (by omega)).1
    rcases Nat.lt_trichotomy (fnL l i) (fnL l j) with z | z | z
    · exact (blG_d (s := s) (fnL l j) (by omega)).2 _ z e.symm
    · exact (hl i hi).2 j hj z
    · exact (blG_d (s := s) (fnL l i) (by omega)).2 _ z e
  have key : ∀ i, i < n → ∃ m, 1 ≤ m ∧ m < 2 ^ n ∧ (kS S p w (sM (blG s) m n) ↔ kP S p w (i + 1) (fnL (l.map (blG s)))) ∧ ((sPl S p).1 = 3 → m = 2 ^ fnL l 0) ∧ (¬ (sPl S p).1 = 3 → m = pset (fnL l) (i + 1)) := by
    intro i hi
    by_cases h3 : (sPl S p).1 = 3
    · refine ⟨2 ^ fnL l 0, Nat.two_pow_pos _, Nat.pow_lt_pow_right (by decide) (hl 0 (by omega)).1, ?_, fun _ => rfl, fun z => absurd h3 z⟩
      rw [sM_one (hl 0 (by omega)).1, ← hg 0 (by omega)]
      exact (kP_one h3 (hgd 0 (by omega)).1).symm
    · refine ⟨pset (fnL l) (i + 1), ?_, pset_lt _ n _ (fun x hx => (hl x (by omega)).1), ?_, fun z => absurd z h3, fun _ => rfl⟩
      · have hbit : (pset (fnL l) (i + 1)).testBit (fnL l 0) = true := (pset_bit _ _ _).mpr ⟨0, by omega, rfl⟩
        rcases Nat.eq_zero_or_pos (pset (fnL l) (i + 1)) with z | z
        · rw [z, Nat.zero_testBit] at hbit
          exact absurd hbit (by decide)
        · exact z
      · rw [sM_pset (fun x hx => (hl x (by omega)).1), ← pset_congr (i + 1) (fun x hx => hg x (by omega))]
        exact (kP_set h3 (fun x hx => hgd x (by omega))).symm
  refine Ret.of [some (zr E 19), none, none, none, none] (by decide +kernel) (Nat.le_of_ble_eq_true rfl) rfl ?_
  have loop : ∀ i, i ≤ n → ∀ y, At E mX8_knownFrom d (qI fun x τ => x = nI (kfL S p w n (l.map (blG s))) ∧ τ = σ) 11 [some (zr E 19), some (.int (nI (pset (fnL l) i))), some (.int (nI (kfU (fun j => decide (kP S p w j (fnL (l.map (blG s))))) n i))), some (.int (nI i)), y] [] σ := by
    refine z_up (fun i hi ih y => ?_)
    by_cases hie : i = n
    · rw [hie]
      refine z_iload_n 12 dX8_knownFrom_11 rfl rfl ?_
      refine z_aload_n 13 dX8_knownFrom_12 rfl rfl ?_
      refine gX8_29 16 rfl dX8_knownFrom_13 rfl (by first | assumption | rfl) ?_
      rw [hC.1]
      refine z_icmp_ge 89 19 dX8_knownFrom_16 (by decide) rfl (fun h16 => ?_) (fun h16 => ?_)
      · (try rw [nI_leI (by omega) (by omega)] at h16)
        refine z_iload_n 90 dX8_knownFrom_89 rfl rfl ?_
        refine z_ri dX8_knownFrom_90 rfl ?_
        exact ⟨by rw [kf_n]; rfl, rfl⟩
      · (try rw [nI_leI (by omega) (by omega)] at h16)
        omega
    · have hil : i < n := by omega
      have hih := ih (i + 1) (by omega) (by omega)
      have hfl := (hl i hil).1
      have hf0 := (hl 0 (by omega)).1
      have hkl := kfU_le (fun j => decide (kP S p w j (fnL (l.map (blG s))))) n i (by omega)
      obtain ⟨m, m1, m2, m3, m4, m5⟩ := key i hil
      have hkm : gi σ 23 m = bI (decide (kP S p w (i + 1) (fnL (l.map (blG s))))) := (hk m m1 m2).trans (bI_c m3)
      have at53 : ∀ y, At E mX8_knownFrom d (qI fun x τ => x = nI (kfL S p w n (l.map (blG s))) ∧ τ = σ) 53 [some (zr E 19), some (.int (nI (pset (fnL l) (i + 1)))), some (.int (nI (kfU (fun j => decide (kP S p w j (fnL (l.map (blG s))))) n i))), some (.int (nI i)), y] [.int (nI m), zr E 23] σ := by
        intro y
        rw [kfU] at hih
        refine z_zaldn 54 dX8_knownFrom_53 rfl (by first | assumption | rfl) (by omega) ?_
        rw [hkm]
        refine zs_istore_4_5 56 rfl dX8_knownFrom_54 rfl rfl ?_
        refine z_iload 58 dX8_knownFrom_56 rfl rfl ?_
        refine z_ifb_ne 71 61 dX8_knownFrom_58 (by decide) rfl (fun h58 => ?_) (fun h58 => ?_)
        · rw [if_pos (decide_eq_true h58)] at hih
          refine z_iload_n 72 dX8_knownFrom_71 rfl rfl ?_
          refine z_aload_n 73 dX8_knownFrom_72 rfl rfl ?_
          refine gX8_29 76 rfl dX8_knownFrom_73 rfl (by first | assumption | rfl) ?_
          rw [hC.1]
          refine z_icmp_le 83 79 dX8_knownFrom_76 (by decide) rfl (fun h76 => ?_) (fun h76 => ?_)
          · (try rw [nI_leI (by omega) (by omega)] at h76)
            rw [if_neg (by omega)] at hih
            refine zs_iinc_3_5_1 86 rfl dX8_knownFrom_83 rfl rfl ?_
            rw [nI_add]
            refine z_goto 11 dX8_knownFrom_86 rfl ?_
            exact hih _
          · (try rw [nI_leI (by omega) (by omega)] at h76)
            rw [if_pos (by omega)] at hih
            refine z_iload_n 80 dX8_knownFrom_79 rfl rfl ?_
            refine z_iconst 81 (v := nI 1) dX8_knownFrom_80 rfl rfl ?_
            refine z_iadd 82 dX8_knownFrom_81 rfl ?_
            rw [nI_add]
            refine zs_istore_n_2_5 83 rfl dX8_knownFrom_82 rfl rfl ?_
            refine zs_iinc_3_5_1 86 rfl dX8_knownFrom_83 rfl rfl ?_
            rw [nI_add]
            refine z_goto 11 dX8_knownFrom_86 rfl ?_
            exact hih _
        · rw [if_neg (by rw [decide_eq_false h58]; decide)] at hih
          refine z_aload_n 62 dX8_knownFrom_61 rfl rfl ?_
          refine gX8_29 65 rfl dX8_knownFrom_62 rfl (by first | assumption | rfl) ?_
          rw [hC.1]
          refine z_iconst 66 (v := nI 1) dX8_knownFrom_65 rfl rfl ?_
          refine z_iadd 67 dX8_knownFrom_66 rfl ?_
          rw [nI_add]
          refine zs_istore_n_2_5 68 rfl dX8_knownFrom_67 rfl rfl ?_
          refine z_goto 83 dX8_knownFrom_68 rfl ?_
          refine zs_iinc_3_5_1 86 rfl dX8_knownFrom_83 rfl rfl ?_
          rw [nI_add]
          refine z_goto 11 dX8_knownFrom_86 rfl ?_
          exact hih _
      cases b with
      | true =>
        have e3 : (sPl S p).1 = 3 := of_decide_eq_true hb.symm
        rw [m4 e3] at at53
        refine z_iload_n 12 dX8_knownFrom_11 rfl rfl ?_
        refine z_aload_n 13 dX8_knownFrom_12 rfl rfl ?_
        refine gX8_29 16 rfl dX8_knownFrom_13 rfl (by first | assumption | rfl) ?_
        rw [hC.1]
        refine z_icmp_ge 89 19 dX8_knownFrom_16 (by decide) rfl (fun h16 => ?_) (fun h16 => ?_)
        · (try rw [nI_leI (by omega) (by omega)] at h16)
          omega
        · (try rw [nI_leI (by omega) (by omega)] at h16)
          refine z_iload_n 20 dX8_knownFrom_19 rfl rfl ?_
          refine z_iconst 21 (v := nI 1) dX8_knownFrom_20 rfl rfl ?_
          refine z_aload_n 22 dX8_knownFrom_21 rfl rfl ?_
          refine gX8_15 25 rfl dX8_knownFrom_22 rfl (by first | assumption | rfl) ?_
          refine z_iload_n 26 dX8_knownFrom_25 rfl rfl ?_
          refine z_ialdn 27 dX8_knownFrom_26 rfl (by first | assumption | rfl) (by omega) ?_
          rw [ho i hil]
          refine z_ishl 28 dX8_knownFrom_27 rfl ?_
          rw [zb_shl (by omega)]
          refine z_ior 29 dX8_knownFrom_28 rfl ?_
          rw [zb_or, show pset (fnL l) i ||| 2 ^ fnL l i = pset (fnL l) (i + 1) from rfl]
          refine zs_istore_n_1_5 30 rfl dX8_knownFrom_29 rfl rfl ?_
          refine z_aload_n 31 dX8_knownFrom_30 rfl rfl ?_
          refine gX8_21 34 rfl dX8_knownFrom_31 rfl (by first | assumption | rfl) ?_
          refine z_aload_n 35 dX8_knownFrom_34 rfl rfl ?_
          refine gX8_25 38 rfl dX8_knownFrom_35 rfl (by first | assumption | rfl) ?_
          rw [hC.2.1]
          refine z_if_eq 52 41 dX8_knownFrom_38 (by decide) rfl (fun h38 => ?_) (fun h38 => ?_)
          · exact absurd h38 (by decide)
          · refine z_iconst 42 (v := nI 1) dX8_knownFrom_41 rfl rfl ?_
            refine z_aload_n 43 dX8_knownFrom_42 rfl rfl ?_
            refine gX8_15 46 rfl dX8_knownFrom_43 rfl (by first | assumption | rfl) ?_
            refine z_iconst 47 (v := nI 0) dX8_knownFrom_46 rfl rfl ?_
            refine z_ialdn 48 dX8_knownFrom_47 rfl (by first | assumption | rfl) (by omega) ?_
            rw [ho 0 (by omega)]
            refine z_ishl 49 dX8_knownFrom_48 rfl ?_
            rw [zb_shl (by omega)]
            refine z_goto 53 dX8_knownFrom_49 rfl ?_
            exact at53 y
      | false =>
        have e3 : ¬ (sPl S p).1 = 3 := of_decide_eq_false hb.symm
        rw [m5 e3] at at53
        refine z_iload_n 12 dX8_knownFrom_11 rfl rfl ?_
        refine z_aload_n 13 dX8_knownFrom_12 rfl rfl ?_
        refine gX8_29 16 rfl dX8_knownFrom_13 rfl (by first | assumption | rfl) ?_
        rw [hC.1]
        refine z_icmp_ge 89 19 dX8_knownFrom_16 (by decide) rfl (fun h16 => ?_) (fun h16 => ?_)
        · (try rw [nI_leI (by omega) (by omega)] at h16)
          omega
        · (try rw [nI_leI (by omega) (by omega)] at h16)
          refine z_iload_n 20 dX8_knownFrom_19 rfl rfl ?_
          refine z_iconst 21 (v := nI 1) dX8_knownFrom_20 rfl rfl ?_
          refine z_aload_n 22 dX8_knownFrom_21 rfl rfl ?_
          refine gX8_15 25 rfl dX8_knownFrom_22 rfl (by first | assumption | rfl) ?_
          refine z_iload_n 26 dX8_knownFrom_25 rfl rfl ?_
          refine z_ialdn 27 dX8_knownFrom_26 rfl (by first | assumption | rfl) (by omega) ?_
          rw [ho i hil]
          refine z_ishl 28 dX8_knownFrom_27 rfl ?_
          rw [zb_shl (by omega)]
          refine z_ior 29 dX8_knownFrom_28 rfl ?_
          rw [zb_or, show pset (fnL l) i ||| 2 ^ fnL l i = pset (fnL l) (i + 1) from rfl]
          refine zs_istore_n_1_5 30 rfl dX8_knownFrom_29 rfl rfl ?_
          refine z_aload_n 31 dX8_knownFrom_30 rfl rfl ?_
          refine gX8_21 34 rfl dX8_knownFrom_31 rfl (by first | assumption | rfl) ?_
          refine z_aload_n 35 dX8_knownFrom_34 rfl rfl ?_
          refine gX8_25 38 rfl dX8_knownFrom_35 rfl (by first | assumption | rfl) ?_
          rw [hC.2.1]
          refine z_if_eq 52 41 dX8_knownFrom_38 (by decide) rfl (fun h38 => ?_) (fun h38 => ?_)
          · refine z_iload_n 53 dX8_knownFrom_52 rfl rfl ?_
            exact at53 y
          · exact absurd rfl h38
  refine z_iconst 1 (v := nI 0) dX8_knownFrom_0 rfl rfl ?_
  refine zs_istore_n_1_5 2 rfl dX8_knownFrom_1 rfl rfl ?_
  refine z_aload_n 3 dX8_knownFrom_2 rfl rfl ?_
  refine gX8_29 6 rfl dX8_knownFrom_3 rfl (by first | assumption | rfl) ?_
  rw [hC.1]
  refine z_iconst 7 (v := nI 1) dX8_knownFrom_6 rfl rfl ?_
  refine z_iadd 8 dX8_knownFrom_7 rfl ?_
  rw [nI_add]
  refine zs_istore_n_2_5 9 rfl dX8_knownFrom_8 rfl rfl ?_
  refine z_iconst 10 (v := nI 0) dX8_knownFrom_9 rfl rfl ?_
  refine zs_istore_n_3_5 11 rfl dX8_knownFrom_10 rfl rfl ?_
  exact loop 0 (Nat.zero_le _) none
