/-! fault and box of both -/
set_option maxRecDepth 20000 in
theorem tX1_read {E : zE} {d : Nat} {σ : zM} {a cap b : Nat} {q : Nat × (Nat → Int32)} (hk : (kd a).1 = 7) (hk1 : kd (a + 1) = (11, cap)) (hS : Sh σ a cap (some q)) (hb : (kd b).1 = 1) (hb1 : kd (b + 1) = (11, 80)) (hN : sBf (some q) = none) : Ret E mX1_read (d + 2) [zr E b, zr E a] σ (qV fun τ => Fr (fun x y => x = b ∧ y = 1 ∨ x = b + 1) σ τ ∧ gi τ b 1 = nI (wc q.2 q.1) ∧ ∀ y, y < dc q.2 q.1 → gi τ (b + 1) y = nI (dg q.2 q.1 y)) := by
  have hc := cap_lt hk1
  have hq := hS.1
  have hs : gi σ a 1 = nI q.1 := hS.2.1
  have hpa := (pI_all hN).1
  have hab : a ≠ b := by rintro rfl; rw [hk] at hb; exact absurd hb (by decide)
  have hab1 : a ≠ b + 1 := by rintro rfl; rw [hb1] at hk; exact absurd (show (11 : Nat) = 7 from hk) (by decide)
  have hab2 : a + 1 ≠ b := by rintro rfl; rw [hk1] at hb; exact absurd (show (11 : Nat) = 1 from hb) (by decide)
  have hab3 : a + 1 ≠ b + 1 := by omega
  refine Ret.of [some (zr E b), some (zr E a), none, none, none] (by decide +kernel) (Nat.le_of_ble_eq_true rfl) rfl ?_
  have loop : ∀ i, i ≤ q.1 → ∀ τ, Fr (fun x y => x = b ∧ y = 1 ∨ x = b + 1) σ τ → gi τ b 1 = nI (wc q.2 i) → (∀ y, y < dc q.2 i → gi τ (b + 1) y = nI (dg q.2 i y)) → At E mX1_read (d + 2) (qV fun τ => Fr (fun x y => x = b ∧ y = 1 ∨ x = b + 1) σ τ ∧ gi τ b 1 = nI (wc q.2 q.1) ∧ ∀ y, y < dc q.2 q.1 → gi τ (b + 1) y = nI (dg q.2 q.1 y)) 9 [some (zr E b), some (zr E a), some (.int (nI (dc q.2 i))), some (.int (nI i)), none] [] τ := by
    refine z_up (fun i hi ih τ hF hw hv => ?_)
    have hST : Sh τ a cap (some q) := hS.fr hF (by omega) (by intros; omega)
    have hsT : gi τ a 1 = nI q.1 := hST.2.1
    by_cases hiq : q.1 ≤ i
    · have hiq : i = q.1 := by omega
      subst hiq
      refine z_iload_n 10 dX1_read_9 rfl rfl ?_
      refine z_aload_n 11 dX1_read_10 rfl rfl ?_
      refine gX1_19 14 rfl dX1_read_11 rfl (by first | assumption | rfl) ?_
      rw [hsT]
      refine z_icmp_ge 80 17 dX1_read_14 (by decide) rfl (fun h14 => ?_) (fun h14 => ?_)
      · (try rw [nI_leI (by omega) (by omega)] at h14)
        refine z_rv dX1_read_80 rfl ?_
        exact ⟨hF, hw, hv⟩
      · (try rw [nI_leI (by omega) (by omega)] at h14)
        omega
    · have hpi := hpa i (by omega)
      refine z_iload_n 10 dX1_read_9 rfl rfl ?_
      refine z_aload_n 11 dX1_read_10 rfl rfl ?_
      refine gX1_19 14 rfl dX1_read_11 rfl (by first | assumption | rfl) ?_
      rw [hsT]
      refine z_icmp_ge 80 17 dX1_read_14 (by decide) rfl (fun h14 => ?_) (fun h14 => ?_)
      · (try rw [nI_leI (by omega) (by omega)] at h14)
        omega
      · (try rw [nI_leI (by omega) (by omega)] at h14)
        refine z_aload_n 18 dX1_read_17 rfl rfl ?_
        refine z_iload_n 19 dX1_read_18 rfl rfl ?_
        refine z_cVI1 22 (tX7_get hk hk1 hST.2.1 hST.1 (show i < q.1 by omega)) kX7_get dX1_read_19 rfl lX1_24 (by first | assumption | rfl) (Nat.le_of_ble_eq_true rfl) ?_
        rintro _ _ ⟨e1, e2⟩
        replace e1 := e1.symm
        replace e2 := e2.symm
        subst e1
        subst e2
        rw [hST.2.2 i (show i < q.1 by omega)]
        refine zs_istore_4_5 24 rfl dX1_read_22 rfl rfl ?_
        refine z_iload 26 dX1_read_24 rfl rfl ?_
        refine z_bipush 28 (v := nI 119) dX1_read_26 rfl rfl ?_
        refine z_icmp_ne 44 31 dX1_read_28 (by decide) rfl (fun h28 => ?_) (fun h28 => ?_)
        · refine z_iload 46 dX1_read_44 rfl rfl ?_
          refine z_bipush 48 (v := nI 32) dX1_read_46 rfl rfl ?_
          refine z_icmp_eq 74 51 dX1_read_48 (by decide) rfl (fun h48 => ?_) (fun h48 => ?_)
          · have edg : dg q.2 (i + 1) = dg q.2 i := by rw [dg, if_pos (Or.inr h48)]
            have edc : dc q.2 (i + 1) = dc q.2 i := by rw [dc, if_pos (Or.inr h48), Nat.add_zero]
            have ewc : wc q.2 (i + 1) = wc q.2 i := by rw [wc, if_neg h28, Nat.add_zero]
            try rw [nI_add]
            refine zs_iinc_3_5_1 77 rfl dX1_read_74 rfl rfl ?_
            rw [nI_add]
            refine z_goto 9 dX1_read_77 rfl ?_
            refine zf_4_5 ?_
            rw [← edc]
            first
              | exact ih (i + 1) (by omega) (by omega) _ (hF.si _ (Or.inl ⟨rfl, rfl⟩)) (by rw [gi_s1, ewc]) (fun y hy => by rw [edc] at hy; rw [gi_s2 _ _ (by omega), edg]; exact hv y hy)
              | exact ih (i + 1) (by omega) (by omega) _ hF (by rw [ewc]; exact hw) (fun y hy => by rw [edc] at hy; rw [edg]; exact hv y hy)
              | (refine ih (i + 1) (by omega) (by omega) _ (hF.si _ (Or.inr rfl)) (by rw [gi_s2 _ _ (by omega), ewc]; exact hw) (fun y hy => ?_)
                 rw [edc] at hy
                 rw [gi_si, edg]
                 unfold zu
                 by_cases hyd : y = dc q.2 i
                 · rw [if_pos ⟨rfl, hyd⟩, if_pos hyd]
                 · rw [if_neg (by omega), if_neg hyd]; exact hv y (by omega))
          · have hD := (hpi.resolve_left h28).resolve_left h48
            have hne : ¬ (q.2 i = nI 119 ∨ q.2 i = nI 32) := fun z => z.elim h28 h48
            obtain ⟨v, hv9, hv1, hv2, hv3⟩ := isD_of hD.1
            have hd80 := hD.2
            have edg : dg q.2 (i + 1) = zu (dg q.2 i) (dc q.2 i) v := by rw [dg, if_neg hne, hv3]
            have edc : dc q.2 (i + 1) = dc q.2 i + 1 := by rw [dc, if_neg hne]
            have ewc : wc q.2 (i + 1) = wc q.2 i := by rw [wc, if_neg h28, Nat.add_zero]
            refine z_iload_n 52 dX1_read_51 rfl rfl ?_
            refine z_aload_n 53 dX1_read_52 rfl rfl ?_
            refine gX1_9 56 rfl dX1_read_53 rfl (by first | assumption | rfl) ?_
            refine z_alen 57 dX1_read_56 rfl (by first | assumption | rfl) ?_
            refine z_icmp_ge 74 60 dX1_read_57 (by decide) rfl (fun h57 => ?_) (fun h57 => ?_)
            · (try rw [nI_leI (by omega) (by omega)] at h57)
              omega
            · (try rw [nI_leI (by omega) (by omega)] at h57)
              refine z_aload_n 61 dX1_read_60 rfl rfl ?_
              refine gX1_9 64 rfl dX1_read_61 rfl (by first | assumption | rfl) ?_
              refine z_iload_n 65 dX1_read_64 rfl rfl ?_
              refine z_iload 67 dX1_read_65 rfl rfl ?_
              refine z_bipush 69 (v := nI 48) dX1_read_67 rfl rfl ?_
              refine z_isub 70 dX1_read_69 rfl ?_
              rw [hv2]
              refine z_iastn 71 dX1_read_70 rfl (by first | assumption | rfl) (by omega) ?_
              refine zs_iinc_2_5_1 74 rfl dX1_read_71 rfl rfl ?_
              try rw [nI_add]
              refine zs_iinc_3_5_1 77 rfl dX1_read_74 rfl rfl ?_
              rw [nI_add]
              refine z_goto 9 dX1_read_77 rfl ?_
              refine zf_4_5 ?_
              rw [← edc]
              first
                | exact ih (i + 1) (by omega) (by omega) _ (hF.si _ (Or.inl ⟨rfl, rfl⟩)) (by rw [gi_s1, ewc]) (fun y hy => by rw [edc] at hy; rw [gi_s2 _ _ (by omega), edg]; exact hv y hy)
                | exact ih (i + 1) (by omega) (by omega) _ hF (by rw [ewc]; exact hw) (fun y hy => by rw [edc] at hy; rw [edg]; exact hv y hy)
                | (refine ih (i + 1) (by omega) (by omega) _ (hF.si _ (Or.inr rfl)) (by rw [gi_s2 _ _ (by omega), ewc]; exact hw) (fun y hy => ?_)
                   rw [edc] at hy
                   rw [gi_si, edg]
                   unfold zu
                   by_cases hyd : y = dc q.2 i
                   · rw [if_pos ⟨rfl, hyd⟩, if_pos hyd]
                   · rw [if_neg (by omega), if_neg hyd]; exact hv y (by omega))
        · have edg : dg q.2 (i + 1) = dg q.2 i := by rw [dg, if_pos (Or.inl h28)]
          have edc : dc q.2 (i + 1) = dc q.2 i := by rw [dc, if_pos (Or.inl h28), Nat.add_zero]
          have ewc : wc q.2 (i + 1) = wc q.2 i + 1 := by rw [wc, if_pos h28]
          refine z_aload_n 32 dX1_read_31 rfl rfl ?_
          refine z_dup 33 dX1_read_32 rfl rfl ?_
          refine gX1_15 36 rfl dX1_read_33 rfl (by first | assumption | rfl) ?_
          refine z_iconst 37 (v := nI 1) dX1_read_36 rfl rfl ?_
          refine z_iadd 38 dX1_read_37 rfl ?_
          rw [hw, nI_add]
          refine pX1_15 41 rfl dX1_read_38 rfl (by first | assumption | rfl) ?_
          refine z_goto 74 dX1_read_41 rfl ?_
          try rw [nI_add]
          refine zs_iinc_3_5_1 77 rfl dX1_read_74 rfl rfl ?_
          rw [nI_add]
          refine z_goto 9 dX1_read_77 rfl ?_
          refine zf_4_5 ?_
          rw [← edc]
          first
            | exact ih (i + 1) (by omega) (by omega) _ (hF.si _ (Or.inl ⟨rfl, rfl⟩)) (by rw [gi_s1, ewc]) (fun y hy => by rw [edc] at hy; rw [gi_s2 _ _ (by omega), edg]; exact hv y hy)
            | exact ih (i + 1) (by omega) (by omega) _ hF (by rw [ewc]; exact hw) (fun y hy => by rw [edc] at hy; rw [edg]; exact hv y hy)
            | (refine ih (i + 1) (by omega) (by omega) _ (hF.si _ (Or.inr rfl)) (by rw [gi_s2 _ _ (by omega), ewc]; exact hw) (fun y hy => ?_)
               rw [edc] at hy
               rw [gi_si, edg]
               unfold zu
               by_cases hyd : y = dc q.2 i
               · rw [if_pos ⟨rfl, hyd⟩, if_pos hyd]
               · rw [if_neg (by omega), if_neg hyd]; exact hv y (by omega))
  refine z_aload_n 1 dX1_read_0 rfl rfl ?_
  refine z_iconst 2 (v := nI 0) dX1_read_1 rfl rfl ?_
  refine pX1_15 5 rfl dX1_read_2 rfl (by first | assumption | rfl) ?_
  refine z_iconst 6 (v := nI 0) dX1_read_5 rfl rfl ?_
  refine zs_istore_n_2_5 7 rfl dX1_read_6 rfl rfl ?_
  refine z_iconst 8 (v := nI 0) dX1_read_7 rfl rfl ?_
  refine zs_istore_n_3_5 9 rfl dX1_read_8 rfl rfl ?_
  exact loop 0 (Nat.zero_le _) _ (Fr.rf.si _ (Or.inl ⟨rfl, rfl⟩)) (gi_s1 _ _ _ _) (fun y hy => absurd hy (Nat.not_lt_zero y))
def spFault (S : sS) (t : Int32) : Int32 × sS := if ¬ inN t 4 then (-1, S) else if sT S t.toNatClampNeg = none then sFd S 1 else (fI (sBf (sT S t.toNatClampNeg)), S)
def clr (S : sS) : sS := setL (setP S 0 (sPl S)) 0 (sLf S)
def bxS (S : sS) (l : Nat) (o : sRow) : sS := match o with
  | none => S
  | some q => clr (setB S l (wc q.2 q.1) (fun w p => dg q.2 q.1 (10 * w + p)))
def bxW (o : sRow) : Nat := match o with
  | none => 0
  | some q => wc q.2 q.1
def spBox (S : sS) (l t : Int32) : Int32 × sS := if ¬ inN l 2 ∨ ¬ inN t 4 then (-1, S) else if sT S t.toNatClampNeg = none then sFd S 1 else if ¬ sBf (sT S t.toNatClampNeg) = none then (-4, S) else (nI (bxW (sT S t.toNatClampNeg)), bxS S l.toNatClampNeg (sT S t.toNatClampNeg))
set_option maxRecDepth 20000 in
theorem tX9_fault {E : zE} {d : Nat} {σ : zM} {S : sS} {t : Int32} (hW : WF S) (hX : RX S σ) : Ret E mX9_fault (d + 1) [zr E 0, .int t] σ (qX σ (spFault S t)) := by
  refine Ret.of [some (zr E 0), some (.int t)] (by decide +kernel) (Nat.le_of_ble_eq_true rfl) rfl ?_
  refine z_iload_n 1 dX9_fault_0 rfl rfl ?_
  refine z_cSI1 4 (tX9_isText) kX9_isText dX9_fault_1 rfl lX9_136 (Nat.le_of_ble_eq_true rfl) ?_
  rintro _ _ ⟨e1, e2⟩
  replace e1 := e1.symm
  replace e2 := e2.symm
  subst e1
  subst e2
  refine z_ifb_ne 9 7 dX9_fault_4 (by decide) rfl (fun h4 => ?_) (fun h4 => ?_)
  · obtain ⟨r, hr, rfl⟩ := inN_of h4
    have hk := kd_t hr
    have hk1 := kd_t1 hr
    have hS : Sh σ (36 + 2 * r) 120 (sT S r) := hX.2.1 r hr
    have hc : r < 2 ^ 31 := by omega
    refine z_aload_n 10 dX9_fault_9 rfl rfl ?_
    refine gX9_15 13 rfl dX9_fault_10 rfl ?_
    refine z_iload_n 14 dX9_fault_13 rfl rfl ?_
    refine z_aald2 15 dX9_fault_14 rfl (by omega) ?_
    refine z_cVI0 18 (tX7_isM (by first | assumption | rfl) (by first | assumption | rfl) (by first | assumption | rfl)) kX7_isMissing dX9_fault_15 rfl lX9_107 (by first | assumption | rfl) (Nat.le_of_ble_eq_true rfl) ?_
    rintro _ _ ⟨e1, e2⟩
    replace e1 := e1.symm
    replace e2 := e2.symm
    subst e1
    subst e2
    refine z_ifb_eq 32 21 dX9_fault_18 (by decide) rfl (fun h18 => ?_) (fun h18 => ?_)
    · obtain ⟨q, hq⟩ := Option.ne_none_iff_exists'.mp h18
      rw [hq] at hS
      refine z_aload_n 33 dX9_fault_32 rfl rfl ?_
      refine gX9_15 36 rfl dX9_fault_33 rfl ?_
      refine z_iload_n 37 dX9_fault_36 rfl rfl ?_
      refine z_aald2 38 dX9_fault_37 rfl (by omega) ?_
      refine z_cVI0 41 (tX7_boxFault hk hk1 hS (by decide)) kX7_boxFault dX9_fault_38 rfl lX9_139 (by first | assumption | rfl) (Nat.le_of_ble_eq_true rfl) ?_
      rintro _ _ ⟨e1, e2⟩
      replace e1 := e1.symm
      replace e2 := e2.symm
      subst e1
      subst e2
      refine z_ri dX9_fault_41 rfl ?_
      first | exact qxf hW ((if_neg (fun q => q h4)).trans (by rw [nI_clamp hc]; exact if_pos h18)) (by decide) hX Fr.rf | exact qx0 ((if_neg (fun q => q h4)).trans (by rw [nI_clamp hc, ← hq]; exact if_neg h18)) hX Fr.rf
    · refine z_aload_n 22 dX9_fault_21 rfl rfl ?_
      refine gX9_39 25 rfl dX9_fault_22 rfl ?_
      refine z_iconst 26 (v := nI 1) dX9_fault_25 rfl rfl ?_
      refine z_cVI1 29 (tX0_found (by omega) (by omega)) kX0_found dX9_fault_26 rfl lX9_87 (by first | assumption | rfl) (Nat.le_of_ble_eq_true rfl) ?_
      rintro _ _ ⟨e1, e2⟩
      replace e1 := e1.symm
      replace e2 := e2.symm
      subst e1
      subst e2
      refine z_goto 41 dX9_fault_29 rfl ?_
      refine z_ri dX9_fault_41 rfl ?_
      first | exact qxf hW ((if_neg (fun q => q h4)).trans (by rw [nI_clamp hc]; exact if_pos h18)) (by decide) hX Fr.rf | exact qx0 ((if_neg (fun q => q h4)).trans (by rw [nI_clamp hc, ← hq]; exact if_neg h18)) hX Fr.rf
  · refine z_iconst 8 (v := (-1)) dX9_fault_7 rfl rfl ?_
    refine z_ri dX9_fault_8 rfl ?_
    exact qx0 (if_pos h4) hX Fr.rf
theorem fI_none {o : Option Nat} (h : ∀ p, o = some p → p < 2 ^ 31) : fI o = -9 ↔ o = none := by
  cases o with
  | none => exact ⟨fun _ => rfl, fun _ => rfl⟩
  | some p =>
    refine ⟨fun z => ?_, fun z => by cases z⟩
    have h1 : nI p = -9 := z
    exact absurd (nI_pos' (h p rfl)) (by rw [h1]; decide)
theorem bfR_le (f : Nat → Int32) : ∀ k i w g s p, bfR f k i w g s = some p → p ≤ i + k := by
  intro k
  induction k with
  | zero =>
    intro i w g s p h
    have h : (if w = 0 ∨ g < 10 then some i else none) = some p := h
    split at h
    · cases h; omega
    · cases h
  | succ k ih =>
    intro i w g s p h
    rw [bfR] at h
    split at h
    · split at h
      · split at h
        · cases h; omega
        · have := ih _ _ _ _ _ h; omega
      · cases h; omega
    · split at h
      · have := ih _ _ _ _ _ h; omega
      · split at h
        · have := ih _ _ _ _ _ h; omega
        · cases h; omega
theorem sBf_none {q : Nat × (Nat → Int32)} (hq : q.1 ≤ 120) : fI (sBf (some q)) = -9 ↔ sBf (some q) = none := fI_none (fun p h => by have := bfR_le _ _ _ _ _ _ _ h; omega)
theorem RX.B {S : sS} {σ τ : zM} {l : Nat} {q : Nat × (Nat → Int32)} (hW : WF S) (h : RX S σ) (hl : l < 2) (hN : sBf (some q) = none) (hF : Fr (fun x y => x = 44 + 2 * l ∧ y = 1 ∨ x = 44 + 2 * l + 1) σ τ) (h1 : gi τ (44 + 2 * l) 1 = nI (wc q.2 q.1)) (h2 : ∀ y, y < dc q.2 q.1 → gi τ (44 + 2 * l + 1) y = nI (dg q.2 q.1 y)) : RX (bxS S l (some q)) (si (si τ 0 11 (nI 0)) 0 12 (nI 0)) := by
  obtain ⟨-, p2, p3, p4, p5, p6⟩ := pI_all hN
  have hf2 : Fr (fun x y => x = 44 + 2 * l ∧ y = 1 ∨ x = 44 + 2 * l + 1 ∨ x = 0 ∧ (y = 11 ∨ y = 12)) σ (si (si τ 0 11 (nI 0)) 0 12 (nI 0)) := ((hF.mono (by intros; omega)).si _ (by omega)).si _ (by omega)
  have hf3 : Fr (fun x y => x = 0) τ (si (si τ 0 11 (nI 0)) 0 12 (nI 0)) := (Fr.si (P := fun x y => x = 0) Fr.rf _ rfl).si _ rfl
  refine ⟨h.1.fr hf2 (by intros; omega), h.2.1.fr hf2 (by intros; omega), fun k hk => ?_, ⟨by rw [gi_s2 _ _ (by omega), gi_s1]; rfl, fun p hp => absurd hp (Nat.not_lt_zero p)⟩, ⟨gi_s1 _ _ _ _, fun p hp => absurd hp (Nat.not_lt_zero p)⟩, h.2.2.2.2.2.fr hf2 (by intros; omega)⟩
  by_cases hkl : k = l
  · subst hkl
    refine ⟨?_, fun w hw p hp => ?_⟩
    · rw [hf3.gi (by omega), h1]
      show nI _ = nI (zu S.2.2.1.1 k (wc q.2 q.1) k)
      unfold zu
      rw [if_pos rfl]
    · have hw' : w < wc q.2 q.1 := by
        have hw2 : w < zu S.2.2.1.1 k (wc q.2 q.1) k := hw
        unfold zu at hw2
        rwa [if_pos rfl] at hw2
      rw [hf3.gi (by omega), h2 (w * 10 + p) (by omega)]
      show _ = nI (zu S.2.2.1.2 k (fun w p => dg q.2 q.1 (10 * w + p)) k w p)
      unfold zu
      rw [if_pos rfl, Nat.mul_comm]
  · have := h.2.2.1 k hk
    refine ⟨?_, fun w hw p hp => ?_⟩
    · rw [hf2.gi (by omega), this.1]
      show _ = nI (zu S.2.2.1.1 l (wc q.2 q.1) k)
      unfold zu
      rw [if_neg hkl]
    · have hw' : w < S.2.2.1.1 k := by
        have hw2 : w < zu S.2.2.1.1 l (wc q.2 q.1) k := hw
        unfold zu at hw2
        rwa [if_neg hkl] at hw2
      rw [hf2.gi (by omega), this.2 w hw' p hp]
      show _ = nI (zu S.2.2.1.2 l (fun w p => dg q.2 q.1 (10 * w + p)) k w p)
      unfold zu
      rw [if_neg hkl]
set_option maxRecDepth 20000 in
theorem tX9_box {E : zE} {d : Nat} {σ : zM} {S : sS} {l t : Int32} (hW : WF S) (hX : RX S σ) : Ret E mX9_box (d + 3) [zr E 0, .int l, .int t] σ (qX σ (spBox S l t)) := by
  by_cases hA : ¬ inN l 2 ∨ ¬ inN t 4
  · refine Ret.of [some (zr E 0), some (.int l), some (.int t)] (by decide +kernel) (Nat.le_of_ble_eq_true rfl) rfl ?_
    refine z_iload_n 1 dX9_box_0 rfl rfl ?_
    refine z_cSI1 4 (tX9_isLand) kX9_isLand dX9_box_1 rfl lX9_143 (Nat.le_of_ble_eq_true rfl) ?_
    rintro _ _ ⟨e1, e2⟩
    replace e1 := e1.symm
    replace e2 := e2.symm
    subst e1
    subst e2
    refine z_ifb_eq 14 7 dX9_box_4 (by decide) rfl (fun h4 => ?_) (fun h4 => ?_)
    · refine z_iconst 15 (v := (-1)) dX9_box_14 rfl rfl ?_
      refine z_ri dX9_box_15 rfl ?_
      exact qx0 (if_pos hA) hX Fr.rf
    · refine z_iload_n 8 dX9_box_7 rfl rfl ?_
      refine z_cSI1 11 (tX9_isText) kX9_isText dX9_box_8 rfl lX9_136 (Nat.le_of_ble_eq_true rfl) ?_
      rintro _ _ ⟨e1, e2⟩
      replace e1 := e1.symm
      replace e2 := e2.symm
      subst e1
      subst e2
      refine z_ifb_ne 16 14 dX9_box_11 (by decide) rfl (fun h11 => ?_) (fun h11 => ?_)
      · exact absurd hA (fun z => z.elim (fun q => q h4) (fun q => q h11))
      · refine z_iconst 15 (v := (-1)) dX9_box_14 rfl rfl ?_
        refine z_ri dX9_box_15 rfl ?_
        exact qx0 (if_pos hA) hX Fr.rf
  have hA1 : inN l 2 := Classical.byContradiction fun q => hA (Or.inl q)
  have hA2 : inN t 4 := Classical.byContradiction fun q => hA (Or.inr q)
  have hA1' := hA1
  have hA2' := hA2
  obtain ⟨l, hl, rfl⟩ := inN_of hA1
  obtain ⟨t, ht, rfl⟩ := inN_of hA2
  have e0 : spBox S (nI l) (nI t) = _ := if_neg hA
  rw [nI_clamp (by omega), nI_clamp (by omega)] at e0
  have hk := kd_t ht
  have hk1 := kd_t1 ht
  have hb := kd_b hl
  have hb1 := kd_b1 hl
  have hS : Sh σ (36 + 2 * t) 120 (sT S t) := hX.2.1 t ht
  refine Ret.of [some (zr E 0), some (.int (nI l)), some (.int (nI t))] (by decide +kernel) (Nat.le_of_ble_eq_true rfl) rfl ?_
  refine z_iload_n 1 dX9_box_0 rfl rfl ?_
  refine z_cSI1 4 (tX9_isLand) kX9_isLand dX9_box_1 rfl lX9_143 (Nat.le_of_ble_eq_true rfl) ?_
  rintro _ _ ⟨e1, e2⟩
  replace e1 := e1.symm
  replace e2 := e2.symm
  subst e1
  subst e2
  refine z_ifb_eq 14 7 dX9_box_4 (by decide) rfl (fun h4 => ?_) (fun h4 => ?_)
  · exact absurd hA1' h4
  · refine z_iload_n 8 dX9_box_7 rfl rfl ?_
    refine z_cSI1 11 (tX9_isText) kX9_isText dX9_box_8 rfl lX9_136 (Nat.le_of_ble_eq_true rfl) ?_
    rintro _ _ ⟨e1, e2⟩
    replace e1 := e1.symm
    replace e2 := e2.symm
    subst e1
    subst e2
    refine z_ifb_ne 16 14 dX9_box_11 (by decide) rfl (fun h11 => ?_) (fun h11 => ?_)
    · refine z_aload_n 17 dX9_box_16 rfl rfl ?_
      refine gX9_15 20 rfl dX9_box_17 rfl ?_
      refine z_iload_n 21 dX9_box_20 rfl rfl ?_
      refine z_aald2 22 dX9_box_21 rfl (by omega) ?_
      refine z_cVI0 25 (tX7_isM (by first | assumption | rfl) (by first | assumption | rfl) (by first | assumption | rfl)) kX7_isMissing dX9_box_22 rfl lX9_107 (by first | assumption | rfl) (Nat.le_of_ble_eq_true rfl) ?_
      rintro _ _ ⟨e1, e2⟩
      replace e1 := e1.symm
      replace e2 := e2.symm
      subst e1
      subst e2
      refine z_ifb_eq 37 28 dX9_box_25 (by decide) rfl (fun h25 => ?_) (fun h25 => ?_)
      · obtain ⟨q, hq⟩ := Option.ne_none_iff_exists'.mp h25
        rw [hq] at hS
        rw [if_neg h25, hq] at e0
        have q120 := hS.1
        refine z_aload_n 38 dX9_box_37 rfl rfl ?_
        refine gX9_15 41 rfl dX9_box_38 rfl ?_
        refine z_iload_n 42 dX9_box_41 rfl rfl ?_
        refine z_aald2 43 dX9_box_42 rfl (by omega) ?_
        refine z_cVI0 46 (tX7_boxFault hk hk1 hS (by decide)) kX7_boxFault dX9_box_43 rfl lX9_139 (by first | assumption | rfl) (Nat.le_of_ble_eq_true rfl) ?_
        rintro _ _ ⟨e1, e2⟩
        replace e1 := e1.symm
        replace e2 := e2.symm
        subst e1
        subst e2
        refine z_bipush 48 (v := (-9)) dX9_box_46 rfl rfl ?_
        refine z_icmp_eq 54 51 dX9_box_48 (by decide) rfl (fun h48 => ?_) (fun h48 => ?_)
        · (try rw [nI_eq (by omega) (by omega)] at h48)
          have hN := (sBf_none q120).mp h48
          rw [if_neg (fun z => z hN)] at e0
          refine z_aload_n 55 dX9_box_54 rfl rfl ?_
          refine gX9_20 58 rfl dX9_box_55 rfl ?_
          refine z_iload_n 59 dX9_box_58 rfl rfl ?_
          refine z_aald3 60 dX9_box_59 rfl (by omega) ?_
          refine z_aload_n 61 dX9_box_60 rfl rfl ?_
          refine gX9_15 64 rfl dX9_box_61 rfl ?_
          refine z_iload_n 65 dX9_box_64 rfl rfl ?_
          refine z_aald2 66 dX9_box_65 rfl (by omega) ?_
          refine z_cVV1 69 (tX1_read hk hk1 hS hb hb1 hN) kX1_read dX9_box_66 rfl lX9_146 (by first | assumption | rfl) (Nat.le_of_ble_eq_true rfl) ?_
          rintro τ1 ⟨hF1, hw1, hv1⟩
          refine z_aload_n 70 dX9_box_69 rfl rfl ?_
          refine z_iconst 71 (v := nI 0) dX9_box_70 rfl rfl ?_
          refine pX9_150 74 rfl dX9_box_71 rfl ?_
          refine z_aload_n 75 dX9_box_74 rfl rfl ?_
          refine z_iconst 76 (v := nI 0) dX9_box_75 rfl rfl ?_
          refine pX9_153 79 rfl dX9_box_76 rfl ?_
          refine z_aload_n 80 dX9_box_79 rfl rfl ?_
          refine gX9_20 83 rfl dX9_box_80 rfl ?_
          refine z_iload_n 84 dX9_box_83 rfl rfl ?_
          refine z_aald3 85 dX9_box_84 rfl (by omega) ?_
          refine gX9_156 88 rfl dX9_box_85 rfl (by first | assumption | rfl) ?_
          refine z_ri dX9_box_88 rfl ?_
          rw [gi_s2 _ _ (by omega), gi_s2 _ _ (by omega), hw1]
          exact qx0 e0 (hX.B hW hl hN hF1 hw1 hv1) (((hF1.mono (by intros; omega)).si _ (by show 0 < 102; omega)).si _ (by show 0 < 102; omega))
        · (try rw [nI_eq (by omega) (by omega)] at h48)
          have hN : ¬ sBf (some q) = none := fun z => h48 ((sBf_none q120).mpr z)
          rw [if_pos hN] at e0
          refine z_bipush 53 (v := (-4)) dX9_box_51 rfl rfl ?_
          refine z_ri dX9_box_53 rfl ?_
          exact qx0 e0 hX Fr.rf
      · refine z_aload_n 29 dX9_box_28 rfl rfl ?_
        refine gX9_39 32 rfl dX9_box_29 rfl ?_
        refine z_iconst 33 (v := nI 1) dX9_box_32 rfl rfl ?_
        refine z_cVI1 36 (tX0_found (by omega) (by omega)) kX0_found dX9_box_33 rfl lX9_87 (by first | assumption | rfl) (Nat.le_of_ble_eq_true rfl) ?_
        rintro _ _ ⟨e1, e2⟩
        replace e1 := e1.symm
        replace e2 := e2.symm
        subst e1
        subst e2
        refine z_ri dX9_box_36 rfl ?_
        exact qxf hW (e0.trans (if_pos h25)) (by decide) hX Fr.rf
    · exact absurd hA2' h11
