/-! findings, back, told, common -/
def spFindings (S : sS) (f : Int32) : Int32 × sS := if nI 1 ≤ f ∧ f ≤ nI 5 then ((sA S).2.1 (zx f), S) else (-1, S)
theorem in15 {f : Int32} {a b : Nat} (ha : a < 2 ^ 31) (hb : b < 2 ^ 31) (h : nI a ≤ f ∧ f ≤ nI b) : ∃ k, a ≤ k ∧ k ≤ b ∧ f = nI k := by
  obtain ⟨j, hj, rfl⟩ := nI_of (x := f) (Int32.not_lt.mpr (Int32.le_trans (nI_pos' ha) h.1))
  exact ⟨j, (nI_leI ha hj).mp h.1, (nI_leI hj hb).mp h.2, rfl⟩
set_option maxRecDepth 20000 in
theorem tX9_findings {E : zE} {d : Nat} {σ : zM} {S : sS} {f : Int32} (hX : RX S σ) : Ret E mX9_findings d [zr E 0, .int f] σ (qX σ (spFindings S f)) := by
  refine Ret.of [some (zr E 0), some (.int f)] (by decide +kernel) (Nat.le_of_ble_eq_true rfl) rfl ?_
  refine z_iload_n 1 dX9_findings_0 rfl rfl ?_
  refine z_iconst 2 (v := nI 1) dX9_findings_1 rfl rfl ?_
  refine z_icmp_lt 22 5 dX9_findings_2 (by decide) rfl (fun h2 => ?_) (fun h2 => ?_)
  · have hn : ¬ (nI 1 ≤ f ∧ f ≤ nI 5) := fun z => Int32.not_lt.mpr z.1 h2
    refine z_iconst 23 (v := (-1)) dX9_findings_22 rfl rfl ?_
    refine z_ri dX9_findings_23 rfl ?_
    first | exact qx0 (if_neg hn) hX Fr.rf | (rw [hX.2.2.2.2.2.2.1 k (by omega)]; exact qx0 e0 hX Fr.rf)
  · refine z_iload_n 6 dX9_findings_5 rfl rfl ?_
    refine z_iconst 7 (v := nI 5) dX9_findings_6 rfl rfl ?_
    refine z_icmp_gt 22 10 dX9_findings_7 (by decide) rfl (fun h7 => ?_) (fun h7 => ?_)
    · have hn : ¬ (nI 1 ≤ f ∧ f ≤ nI 5) := fun z => Int32.not_lt.mpr z.2 h7
      refine z_iconst 23 (v := (-1)) dX9_findings_22 rfl rfl ?_
      refine z_ri dX9_findings_23 rfl ?_
      first | exact qx0 (if_neg hn) hX Fr.rf | (rw [hX.2.2.2.2.2.2.1 k (by omega)]; exact qx0 e0 hX Fr.rf)
    · have hy : nI 1 ≤ f ∧ f ≤ nI 5 := ⟨Int32.not_lt.mp h2, Int32.not_lt.mp h7⟩
      have e0 : spFindings S f = _ := if_pos hy
      obtain ⟨k, hk1, hk5, rfl⟩ := in15 (by decide) (by decide) hy
      rw [zx_nI (by omega)] at e0
      refine z_aload_n 11 dX9_findings_10 rfl rfl ?_
      refine gX9_39 14 rfl dX9_findings_11 rfl ?_
      refine gX9_390 17 rfl dX9_findings_14 rfl (by first | assumption | rfl) ?_
      refine z_iload_n 18 dX9_findings_17 rfl rfl ?_
      refine z_ialdn 19 dX9_findings_18 rfl (by first | assumption | rfl) (by omega) ?_
      refine z_goto 23 dX9_findings_19 rfl ?_
      refine z_ri dX9_findings_23 rfl ?_
      first | exact qx0 (if_neg hn) hX Fr.rf | (rw [hX.2.2.2.2.2.2.1 k (by omega)]; exact qx0 e0 hX Fr.rf)
set_option maxRecDepth 20000 in
theorem tX10_findings {E : zE} {d : Nat} {σ : zM} {S : sS} {f : Int32} (hX : RM S σ) : Ret E mX10_findings (d + 1) [zr E 102, .int f] σ (qM σ (spFindings S f)) := by
  refine Ret.of [some (zr E 102), some (.int f)] (by decide +kernel) (Nat.le_of_ble_eq_true rfl) rfl ?_
  refine z_iload_n 1 dX10_findings_0 rfl rfl ?_
  refine z_iconst 2 (v := nI 1) dX10_findings_1 rfl rfl ?_
  refine z_iconst 3 (v := nI 5) dX10_findings_2 rfl rfl ?_
  refine z_cSI3 6 (tX10_in) kX10_in dX10_findings_3 rfl lX10_91 (Nat.le_of_ble_eq_true rfl) ?_
  rintro _ _ ⟨e1, e2⟩
  replace e1 := e1.symm
  replace e2 := e2.symm
  subst e1
  subst e2
  refine z_ifb_eq 18 9 dX10_findings_6 (by decide) rfl (fun h6 => ?_) (fun h6 => ?_)
  · refine z_iconst 19 (v := (-1)) dX10_findings_18 rfl rfl ?_
    refine z_ri dX10_findings_19 rfl ?_
    first | exact qm0 (if_neg h6) hX Fr.rf | (rw [hX.2.2.2.2.2.2.1 k (by omega)]; exact qm0 e0 hX Fr.rf)
  · have e0 : spFindings S f = _ := if_pos h6
    obtain ⟨k, hk1, hk5, rfl⟩ := in15 (by decide) (by decide) h6
    rw [zx_nI (by omega)] at e0
    refine z_aload_n 10 dX10_findings_9 rfl rfl ?_
    refine gX10_7 13 rfl dX10_findings_10 rfl ?_
    refine z_iload_n 14 dX10_findings_13 rfl rfl ?_
    refine z_ialdn 15 dX10_findings_14 rfl (by first | assumption | rfl) (by omega) ?_
    refine z_goto 19 dX10_findings_15 rfl ?_
    refine z_ri dX10_findings_19 rfl ?_
    first | exact qm0 (if_neg h6) hX Fr.rf | (rw [hX.2.2.2.2.2.2.1 k (by omega)]; exact qm0 e0 hX Fr.rf)
theorem RX.L {S : sS} {σ τ : zM} {n : Nat} {f : Nat → sLeaf} (hW : WF S) (h : RX S σ) (hF : Fr (fun x y => x = 0 ∧ y = 12 ∨ 64 ≤ x ∧ x < 100) σ τ) (hL : XL (n, f) τ) : RX (setL S n f) τ := ⟨h.1.fr hF (by intros; omega), h.2.1.fr hF (by intros; omega), h.2.2.1.fr hF (by intros; omega), h.2.2.2.1.fr hW.2.1.1 hF (by intros; omega), hL, h.2.2.2.2.2.fr hF (by intros; omega)⟩
theorem RM.L {S : sS} {σ τ : zM} {n : Nat} {f : Nat → sLeaf} (hW : WF S) (h : RM S σ) (hF : Fr (fun x y => x = 102 ∧ y = 35 ∨ x = 124) σ τ) (hL : ML (n, f) τ) : RM (setL S n f) τ := ⟨h.1.fr hF (by intros; omega), h.2.1.fr hF (by intros; omega), h.2.2.1.fr (fun l hl => (hW.1 l hl).1) hF (by intros; omega), h.2.2.2.1.fr hW.2.1.1 hF (by intros; omega), hL, h.2.2.2.2.2.fr hF (by intros; omega)⟩
def spBack (S : sS) (n : Int32) : Int32 × sS := if inN n (sLc S + 1) then (nI (sLc S - zx n), setL S (zx n) (sLf S)) else (-1, S)
set_option maxRecDepth 20000 in
theorem tX9_back {E : zE} {d : Nat} {σ : zM} {S : sS} {n : Int32} (hW : WF S) (hX : RX S σ) : Ret E mX9_back d [zr E 0, .int n] σ (qX σ (spBack S n)) := by
  have h12 := hW.2.2.1
  have hlc : gi σ 0 12 = nI (sLc S) := hX.2.2.2.2.1.1
  by_cases hA : inN n (sLc S + 1)
  · have e0 : spBack S n = _ := if_pos hA
    obtain ⟨n, hn, rfl⟩ := inN_of hA
    rw [zx_nI (by omega)] at e0
    refine Ret.of [some (zr E 0), some (.int (nI n)), none] (by decide +kernel) (Nat.le_of_ble_eq_true rfl) rfl ?_
    refine z_iload_n 1 dX9_back_0 rfl rfl ?_
    refine z_if_lt 12 4 dX9_back_1 (by decide) rfl (fun h1 => ?_) (fun h1 => ?_)
    · exact absurd h1 (nI_pos (by omega))
    · refine z_iload_n 5 dX9_back_4 rfl rfl ?_
      refine z_aload_n 6 dX9_back_5 rfl rfl ?_
      refine gX9_153 9 rfl dX9_back_6 rfl ?_
      rw [hlc]
      refine z_icmp_le 14 12 dX9_back_9 (by decide) rfl (fun h9 => ?_) (fun h9 => ?_)
      · (try rw [nI_leI (by omega) (by omega)] at h9)
        refine z_aload_n 15 dX9_back_14 rfl rfl ?_
        refine gX9_153 18 rfl dX9_back_15 rfl ?_
        refine z_iload_n 19 dX9_back_18 rfl rfl ?_
        rw [hlc]
        refine z_isub 20 dX9_back_19 rfl ?_
        rw [nI_sub (by omega)]
        refine zs_istore_n_2_3 21 rfl dX9_back_20 rfl rfl ?_
        refine z_aload_n 22 dX9_back_21 rfl rfl ?_
        refine z_iload_n 23 dX9_back_22 rfl rfl ?_
        refine pX9_153 26 rfl dX9_back_23 rfl ?_
        refine z_iload_n 27 dX9_back_26 rfl rfl ?_
        refine z_ri dX9_back_27 rfl ?_
        have hf : Fr (fun x y => x = 0 ∧ y = 12) σ (si σ 0 12 (nI n)) := Fr.rf.si _ ⟨rfl, rfl⟩
        refine qx0 e0 (hX.L hW (hf.mono (by intros; omega)) ⟨gi_s1 _ _ _ _, fun e he => ?_⟩) (hf.mono (by intros; omega))
        obtain ⟨a1, a2, a3, a4, a5, a6, a7⟩ := hX.2.2.2.2.1.2 e (by have he : e < n := he; show e < sLc S; omega)
        exact ⟨(hf.gi (by omega)).trans a1, (hf.gi (by omega)).trans a2, (hf.gi (by omega)).trans a3, (hf.gi (by omega)).trans a4, (hf.gi (by omega)).trans a5, (hf.gi (by omega)).trans a6, fun i hi => (hf.gi (by omega)).trans (a7 i hi)⟩
      · (try rw [nI_leI (by omega) (by omega)] at h9)
        omega
  · refine Ret.of [some (zr E 0), some (.int n), none] (by decide +kernel) (Nat.le_of_ble_eq_true rfl) rfl ?_
    refine z_iload_n 1 dX9_back_0 rfl rfl ?_
    refine z_if_lt 12 4 dX9_back_1 (by decide) rfl (fun h1 => ?_) (fun h1 => ?_)
    · (try rw [nI_lt0 (by omega)] at h1)
      refine z_iconst 13 (v := (-1)) dX9_back_12 rfl rfl ?_
      refine z_ri dX9_back_13 rfl ?_
      exact qx0 (if_neg hA) hX Fr.rf
    · (try rw [nI_lt0 (by omega)] at h1)
      refine z_iload_n 5 dX9_back_4 rfl rfl ?_
      refine z_aload_n 6 dX9_back_5 rfl rfl ?_
      refine gX9_153 9 rfl dX9_back_6 rfl ?_
      rw [hlc]
      refine z_icmp_le 14 12 dX9_back_9 (by decide) rfl (fun h9 => ?_) (fun h9 => ?_)
      · exact absurd ((inN_in (by omega)).mp ⟨by rw [nI_0]; exact Int32.not_lt.mp h1, h9⟩) hA
      · refine z_iconst 13 (v := (-1)) dX9_back_12 rfl rfl ?_
        refine z_ri dX9_back_13 rfl ?_
        exact qx0 (if_neg hA) hX Fr.rf
set_option maxRecDepth 20000 in
theorem tX10_back {E : zE} {d : Nat} {σ : zM} {S : sS} {n : Int32} (hW : WF S) (hX : RM S σ) : Ret E mX10_back (d + 1) [zr E 102, .int n] σ (qM σ (spBack S n)) := by
  have h12 := hW.2.2.1
  have hlc : gi σ 102 35 = nI (sLc S) := hX.2.2.2.2.1.1
  by_cases hA : inN n (sLc S + 1)
  · have e0 : spBack S n = _ := if_pos hA
    have hA' := hA
    obtain ⟨n, hn, rfl⟩ := inN_of hA
    rw [zx_nI (by omega)] at e0
    refine Ret.of [some (zr E 102), some (.int (nI n)), none] (by decide +kernel) (Nat.le_of_ble_eq_true rfl) rfl ?_
    refine z_iload_n 1 dX10_back_0 rfl rfl ?_
    refine z_iconst 2 (v := nI 0) dX10_back_1 rfl rfl ?_
    refine z_aload_n 3 dX10_back_2 rfl rfl ?_
    refine gX10_141 6 rfl dX10_back_3 rfl ?_
    rw [hlc]
    refine z_cSI3 9 (tX10_in) kX10_in dX10_back_6 rfl lX10_91 (Nat.le_of_ble_eq_true rfl) ?_
    rintro _ _ ⟨e1, e2⟩
    replace e1 := e1.symm
    replace e2 := e2.symm
    subst e1
    subst e2
    rw [in_k (by omega)]
    refine z_ifb_ne 14 12 dX10_back_9 (by decide) rfl (fun h9 => ?_) (fun h9 => ?_)
    · refine z_aload_n 15 dX10_back_14 rfl rfl ?_
      refine gX10_141 18 rfl dX10_back_15 rfl ?_
      refine z_iload_n 19 dX10_back_18 rfl rfl ?_
      rw [hlc]
      refine z_isub 20 dX10_back_19 rfl ?_
      rw [nI_sub (by omega)]
      refine zs_istore_n_2_3 21 rfl dX10_back_20 rfl rfl ?_
      refine z_aload_n 22 dX10_back_21 rfl rfl ?_
      refine z_iload_n 23 dX10_back_22 rfl rfl ?_
      refine pX10_141 26 rfl dX10_back_23 rfl ?_
      refine z_iload_n 27 dX10_back_26 rfl rfl ?_
      refine z_ri dX10_back_27 rfl ?_
      have hf : Fr (fun x y => x = 102 ∧ y = 35) σ (si σ 102 35 (nI n)) := Fr.rf.si _ ⟨rfl, rfl⟩
      refine qm0 e0 (hX.L hW (hf.mono (by intros; omega)) ⟨gi_s1 _ _ _ _, fun e he => ?_⟩) (hf.mono (by intros; omega))
      obtain ⟨a1, a2, a3, a4, a5, a6, a7⟩ := hX.2.2.2.2.1.2 e (by have he : e < n := he; show e < sLc S; omega)
      exact ⟨(hf.gi (by omega)).trans a1, (hf.gi (by omega)).trans a2, (hf.gi (by omega)).trans a3, (hf.gi (by omega)).trans a4, (hf.gi (by omega)).trans a5, (hf.gi (by omega)).trans a6, fun i hi => (hf.gi (by omega)).trans (a7 i hi)⟩
    · exact absurd hA' h9
  · refine Ret.of [some (zr E 102), some (.int n), none] (by decide +kernel) (Nat.le_of_ble_eq_true rfl) rfl ?_
    refine z_iload_n 1 dX10_back_0 rfl rfl ?_
    refine z_iconst 2 (v := nI 0) dX10_back_1 rfl rfl ?_
    refine z_aload_n 3 dX10_back_2 rfl rfl ?_
    refine gX10_141 6 rfl dX10_back_3 rfl ?_
    rw [hlc]
    refine z_cSI3 9 (tX10_in) kX10_in dX10_back_6 rfl lX10_91 (Nat.le_of_ble_eq_true rfl) ?_
    rintro _ _ ⟨e1, e2⟩
    replace e1 := e1.symm
    replace e2 := e2.symm
    subst e1
    subst e2
    rw [in_k (by omega)]
    refine z_ifb_ne 14 12 dX10_back_9 (by decide) rfl (fun h9 => ?_) (fun h9 => ?_)
    · exact absurd h9 hA
    · refine z_iconst 13 (v := (-1)) dX10_back_12 rfl rfl ?_
      refine z_ri dX10_back_13 rfl ?_
      exact qm0 (if_neg hA) hX Fr.rf
theorem WF_back {S : sS} (hW : WF S) (n : Int32) : WF (spBack S n).2 := by
  unfold spBack
  split
  · rename_i h
    have h12 := hW.2.2.1
    have h2 : zx n < sLc S + 1 := h.2
    exact ⟨hW.1, hW.2.1, ⟨by show zx n ≤ 12; omega, fun e he => hW.2.2.2 e (by have he : e < zx n := he; omega)⟩⟩
  · exact hW
/-! told -/
def lfV (f : sLeaf) (j : Nat) : Int32 := match j with
  | 0 => bI f.1
  | 1 => nI f.2.1
  | 2 => nI f.2.2.1
  | 3 => nI (pset f.2.2.2.2.1 f.2.2.2.1)
  | _ => byI f.2.2.2.2.2
def spTold (S : sS) (e w : Int32) : Int32 × sS := if inN e (sLc S) ∧ inN w 5 then sAsk S (lfV (sLf S (zx e)) (zx w)) (nI 1) else (-1, S)
set_option maxRecDepth 20000 in
theorem tX3_tells {E : zE} {d : Nat} {σ : zM} {S : sS} {e j : Nat} (hW : WF S) (hX : RX S σ) (he : e < sLc S) (hj : j < 5) : Ret E mX3_tells d [zr E (64 + 3 * e), .int (nI j)] σ (qI fun x τ => x = lfV (sLf S e) j ∧ τ = σ) := by
  have h12 := hW.2.2.1
  have hk := kd_e (show e < 12 by omega)
  obtain ⟨a1, a2, a3, a4, a5, a6, a7⟩ := hX.2.2.2.2.1.2 e he
  refine Ret.of [some (zr E (64 + 3 * e)), some (.int (nI j))] (by decide +kernel) (Nat.le_of_ble_eq_true rfl) rfl ?_
  refine z_iload_n 1 dX3_tells_0 rfl rfl ?_
  match j, hj with
  | 0, _ =>
    refine z_tab 32 dX3_tells_1 (by decide) (by decide) rfl (by decide) ?_
    have a1 : gi σ (64 + 3 * e) 1 = bI (sLf S e).1 := a1
    cases hg : (sLf S e).1 with
    | false =>
      rw [hg] at a1
      refine z_aload_n 33 dX3_tells_32 rfl rfl ?_
      refine gX3_16 36 rfl dX3_tells_33 rfl (by first | assumption | rfl) ?_
      rw [a1]
      refine z_if_eq 43 39 dX3_tells_36 (by decide) rfl (fun h36 => ?_) (fun h36 => ?_)
      · refine z_iconst 44 (v := nI 0) dX3_tells_43 rfl rfl ?_
        refine z_ri dX3_tells_44 rfl ?_
        exact ⟨by show _ = bI (sLf S e).1; rw [hg]; rfl, rfl⟩
      · exact absurd rfl h36
    | true =>
      rw [hg] at a1
      refine z_aload_n 33 dX3_tells_32 rfl rfl ?_
      refine gX3_16 36 rfl dX3_tells_33 rfl (by first | assumption | rfl) ?_
      rw [a1]
      refine z_if_eq 43 39 dX3_tells_36 (by decide) rfl (fun h36 => ?_) (fun h36 => ?_)
      · exact absurd h36 (by decide)
      · refine z_iconst 40 (v := nI 1) dX3_tells_39 rfl rfl ?_
        refine z_goto 44 dX3_tells_40 rfl ?_
        refine z_ri dX3_tells_44 rfl ?_
        exact ⟨by show _ = bI (sLf S e).1; rw [hg]; rfl, rfl⟩
  | 1, _ =>
    refine z_tab 45 dX3_tells_1 (by decide) (by decide) rfl (by decide) ?_
    refine z_aload_n 46 dX3_tells_45 rfl rfl ?_
    refine gX3_20 49 rfl dX3_tells_46 rfl (by first | assumption | rfl) ?_
    refine z_ri dX3_tells_49 rfl ?_
    exact ⟨a2, rfl⟩
  | 2, _ =>
    refine z_tab 50 dX3_tells_1 (by decide) (by decide) rfl (by decide) ?_
    refine z_aload_n 51 dX3_tells_50 rfl rfl ?_
    refine gX3_24 54 rfl dX3_tells_51 rfl (by first | assumption | rfl) ?_
    refine z_ri dX3_tells_54 rfl ?_
    exact ⟨a3, rfl⟩
  | 3, _ =>
    refine z_tab 55 dX3_tells_1 (by decide) (by decide) rfl (by decide) ?_
    refine z_aload_n 56 dX3_tells_55 rfl rfl ?_
    refine gX3_35 59 rfl dX3_tells_56 rfl (by first | assumption | rfl) ?_
    refine z_ri dX3_tells_59 rfl ?_
    exact ⟨a4, rfl⟩
  | 4, _ =>
    refine z_tabD 60 dX3_tells_1 (by decide) (by decide) ?_
    refine z_aload_n 61 dX3_tells_60 rfl rfl ?_
    refine gX3_37 64 rfl dX3_tells_61 rfl (by first | assumption | rfl) ?_
    refine z_ri dX3_tells_64 rfl ?_
    exact ⟨a5, rfl⟩
set_option maxRecDepth 20000 in
theorem tX10_leafTells {E : zE} {d : Nat} {σ : zM} {e j : Nat} (he : e < 12) (hj : j < 12) : Ret E mX10_leafTells d [zr E 102, .int (nI e), .int (nI j)] σ (qI fun x τ => x = gi σ 124 (12 * e + j) ∧ τ = σ) := by
  refine Ret.of [some (zr E 102), some (.int (nI e)), some (.int (nI j))] (by decide +kernel) (Nat.le_of_ble_eq_true rfl) rfl ?_
  refine z_aload_n 1 dX10_leafTells_0 rfl rfl ?_
  refine gX10_78 4 rfl dX10_leafTells_1 rfl ?_
  refine z_bipush 6 (v := nI 12) dX10_leafTells_4 rfl rfl ?_
  refine z_iload_n 7 dX10_leafTells_6 rfl rfl ?_
  refine z_imul 8 dX10_leafTells_7 rfl ?_
  refine z_iload_n 9 dX10_leafTells_8 rfl rfl ?_
  refine z_iadd 10 dX10_leafTells_9 rfl ?_
  rw [nI_mul, nI_add]
  refine z_ialdn 11 dX10_leafTells_10 rfl (by first | assumption | rfl) (by omega) ?_
  refine z_ri dX10_leafTells_11 rfl ?_
  exact ⟨rfl, rfl⟩
theorem RM.lf {S : sS} {σ : zM} (hX : RM S σ) {e j : Nat} (he : e < sLc S) (hj : j < 5) : gi σ 124 (12 * e + j) = lfV (sLf S e) j := by
  obtain ⟨a1, a2, a3, a4, a5, a6, a7⟩ := hX.2.2.2.2.1.2 e he
  match j, hj with
  | 0, _ => exact a1
  | 1, _ => exact a2
  | 2, _ => exact a3
  | 3, _ => exact a4
  | 4, _ => exact a5
set_option maxRecDepth 20000 in
theorem tX9_told {E : zE} {d : Nat} {σ : zM} {S : sS} {e w : Int32} (hW : WF S) (hX : RX S σ) : Ret E mX9_told (d + 1) [zr E 0, .int e, .int w] σ (qX σ (spTold S e w)) := by
  have h12 := hW.2.2.1
  have hlc : gi σ 0 12 = nI (sLc S) := hX.2.2.2.2.1.1
  by_cases hA : inN e (sLc S) ∧ inN w 5
  · have e0 : spTold S e w = _ := if_pos hA
    obtain ⟨e, he, rfl⟩ := inN_of hA.1
    obtain ⟨w, hw, rfl⟩ := inN_of hA.2
    rw [zx_nI (by omega), zx_nI (by omega)] at e0
    have hk := kd_e (show e < 12 by omega)
    refine Ret.of [some (zr E 0), some (.int (nI e)), some (.int (nI w))] (by decide +kernel) (Nat.le_of_ble_eq_true rfl) rfl ?_
    refine z_iload_n 1 dX9_told_0 rfl rfl ?_
    refine z_if_lt 21 4 dX9_told_1 (by decide) rfl (fun h1 => ?_) (fun h1 => ?_)
    · exact absurd h1 (nI_pos (by omega))
    · refine z_iload_n 5 dX9_told_4 rfl rfl ?_
      refine z_aload_n 6 dX9_told_5 rfl rfl ?_
      refine gX9_153 9 rfl dX9_told_6 rfl ?_
      rw [hlc]
      refine z_icmp_ge 21 12 dX9_told_9 (by decide) rfl (fun h9 => ?_) (fun h9 => ?_)
      · (try rw [nI_leI (by omega) (by omega)] at h9)
        omega
      · (try rw [nI_leI (by omega) (by omega)] at h9)
        refine z_iload_n 13 dX9_told_12 rfl rfl ?_
        refine z_if_lt 21 16 dX9_told_13 (by decide) rfl (fun h13 => ?_) (fun h13 => ?_)
        · exact absurd h13 (nI_pos (by omega))
        · refine z_iload_n 17 dX9_told_16 rfl rfl ?_
          refine z_iconst 18 (v := nI 4) dX9_told_17 rfl rfl ?_
          refine z_icmp_le 23 21 dX9_told_18 (by decide) rfl (fun h18 => ?_) (fun h18 => ?_)
          · (try rw [nI_leI (by omega) (by omega)] at h18)
            refine z_aload_n 24 dX9_told_23 rfl rfl ?_
            refine gX9_39 27 rfl dX9_told_24 rfl ?_
            refine z_aload_n 28 dX9_told_27 rfl rfl ?_
            refine gX9_32 31 rfl dX9_told_28 rfl ?_
            refine z_iload_n 32 dX9_told_31 rfl rfl ?_
            refine z_aald5 33 dX9_told_32 rfl (by omega) ?_
            refine z_iload_n 34 dX9_told_33 rfl rfl ?_
            refine z_cVI1 37 (tX3_tells hW hX he hw) kX3_tells dX9_told_34 rfl lX9_326 (by first | assumption | rfl) (Nat.le_of_ble_eq_true rfl) ?_
            rintro _ _ ⟨e1, e2⟩
            replace e1 := e1.symm
            replace e2 := e2.symm
            subst e1
            subst e2
            refine z_cVI1 40 (tX0_ask) kX0_ask dX9_told_37 rfl lX9_104 (by first | assumption | rfl) (Nat.le_of_ble_eq_true rfl) ?_
            rintro _ _ ⟨e1, e2⟩
            replace e1 := e1.symm
            replace e2 := e2.symm
            subst e1
            subst e2
            refine z_ri dX9_told_40 rfl ?_
            exact qxa hW e0 hX Fr.rf
          · (try rw [nI_leI (by omega) (by omega)] at h18)
            omega
  · refine Ret.of [some (zr E 0), some (.int e), some (.int w)] (by decide +kernel) (Nat.le_of_ble_eq_true rfl) rfl ?_
    refine z_iload_n 1 dX9_told_0 rfl rfl ?_
    refine z_if_lt 21 4 dX9_told_1 (by decide) rfl (fun h1 => ?_) (fun h1 => ?_)
    · (try rw [nI_lt0 (by omega)] at h1)
      refine z_iconst 22 (v := (-1)) dX9_told_21 rfl rfl ?_
      refine z_ri dX9_told_22 rfl ?_
      exact qx0 (if_neg hA) hX Fr.rf
    · (try rw [nI_lt0 (by omega)] at h1)
      refine z_iload_n 5 dX9_told_4 rfl rfl ?_
      refine z_aload_n 6 dX9_told_5 rfl rfl ?_
      refine gX9_153 9 rfl dX9_told_6 rfl ?_
      rw [hlc]
      refine z_icmp_ge 21 12 dX9_told_9 (by decide) rfl (fun h9 => ?_) (fun h9 => ?_)
      · refine z_iconst 22 (v := (-1)) dX9_told_21 rfl rfl ?_
        refine z_ri dX9_told_22 rfl ?_
        exact qx0 (if_neg hA) hX Fr.rf
      · refine z_iload_n 13 dX9_told_12 rfl rfl ?_
        refine z_if_lt 21 16 dX9_told_13 (by decide) rfl (fun h13 => ?_) (fun h13 => ?_)
        · (try rw [nI_lt0 (by omega)] at h13)
          refine z_iconst 22 (v := (-1)) dX9_told_21 rfl rfl ?_
          refine z_ri dX9_told_22 rfl ?_
          exact qx0 (if_neg hA) hX Fr.rf
        · (try rw [nI_lt0 (by omega)] at h13)
          refine z_iload_n 17 dX9_told_16 rfl rfl ?_
          refine z_iconst 18 (v := nI 4) dX9_told_17 rfl rfl ?_
          refine z_icmp_le 23 21 dX9_told_18 (by decide) rfl (fun h18 => ?_) (fun h18 => ?_)
          · exact absurd ⟨inN_t (by omega) h1 h9, (inN_in (by decide)).mp ⟨by rw [nI_0]; exact Int32.not_lt.mp h13, h18⟩⟩ hA
          · refine z_iconst 22 (v := (-1)) dX9_told_21 rfl rfl ?_
            refine z_ri dX9_told_22 rfl ?_
            exact qx0 (if_neg hA) hX Fr.rf
set_option maxRecDepth 20000 in
theorem tX10_told {E : zE} {d : Nat} {σ : zM} {S : sS} {e w : Int32} (hW : WF S) (hX : RM S σ) : Ret E mX10_told (d + 1) [zr E 102, .int e, .int w] σ (qM σ (spTold S e w)) := by
  have h12 := hW.2.2.1
  have hlc : gi σ 102 35 = nI (sLc S) := hX.2.2.2.2.1.1
  by_cases hA : inN e (sLc S) ∧ inN w 5
  · have e0 : spTold S e w = _ := if_pos hA
    have hA1 := hA.1
    have hA2 := hA.2
    obtain ⟨e, he, rfl⟩ := inN_of hA.1
    obtain ⟨w, hw, rfl⟩ := inN_of hA.2
    rw [zx_nI (by omega), zx_nI (by omega)] at e0
    refine Ret.of [some (zr E 102), some (.int (nI e)), some (.int (nI w))] (by decide +kernel) (Nat.le_of_ble_eq_true rfl) rfl ?_
    refine z_iload_n 1 dX10_told_0 rfl rfl ?_
    refine z_iconst 2 (v := nI 0) dX10_told_1 rfl rfl ?_
    refine z_aload_n 3 dX10_told_2 rfl rfl ?_
    refine gX10_141 6 rfl dX10_told_3 rfl ?_
    rw [hlc]
    refine z_iconst 7 (v := nI 1) dX10_told_6 rfl rfl ?_
    refine z_isub 8 dX10_told_7 rfl ?_
    refine z_cSI3 11 (tX10_in) kX10_in dX10_told_8 rfl lX10_91 (Nat.le_of_ble_eq_true rfl) ?_
    rintro _ _ ⟨e1, e2⟩
    replace e1 := e1.symm
    replace e2 := e2.symm
    subst e1
    subst e2
    rw [in_n (by omega)]
    refine z_ifb_eq 37 14 dX10_told_11 (by decide) rfl (fun h11 => ?_) (fun h11 => ?_)
    · exact absurd hA1 h11
    · refine z_iload_n 15 dX10_told_14 rfl rfl ?_
      refine z_iconst 16 (v := nI 0) dX10_told_15 rfl rfl ?_
      refine z_iconst 17 (v := nI 4) dX10_told_16 rfl rfl ?_
      refine z_cSI3 20 (tX10_in) kX10_in dX10_told_17 rfl lX10_91 (Nat.le_of_ble_eq_true rfl) ?_
      rintro _ _ ⟨e1, e2⟩
      replace e1 := e1.symm
      replace e2 := e2.symm
      subst e1
      subst e2
      rw [in_k (by decide)]
      refine z_ifb_eq 37 23 dX10_told_20 (by decide) rfl (fun h20 => ?_) (fun h20 => ?_)
      · exact absurd hA2 h20
      · refine z_aload_n 24 dX10_told_23 rfl rfl ?_
        refine z_aload_n 25 dX10_told_24 rfl rfl ?_
        refine z_iload_n 26 dX10_told_25 rfl rfl ?_
        refine z_iload_n 27 dX10_told_26 rfl rfl ?_
        refine z_cVI2 30 (tX10_leafTells (by omega) (by omega)) kX10_leafTells dX10_told_27 rfl lX10_304 (by first | assumption | rfl) (Nat.le_of_ble_eq_true rfl) ?_
        rintro _ _ ⟨e1, e2⟩
        replace e1 := e1.symm
        replace e2 := e2.symm
        subst e1
        subst e2
        rw [hX.lf he hw]
        refine z_iconst 31 (v := nI 1) dX10_told_30 rfl rfl ?_
        refine z_cVI2 34 (tX10_ask) kX10_ask dX10_told_31 rfl lX10_117 (by first | assumption | rfl) (Nat.le_of_ble_eq_true rfl) ?_
        rintro _ _ ⟨e1, e2⟩
        replace e1 := e1.symm
        replace e2 := e2.symm
        subst e1
        subst e2
        refine z_goto 38 dX10_told_34 rfl ?_
        refine z_ri dX10_told_38 rfl ?_
        exact qma hW e0 hX Fr.rf
  · refine Ret.of [some (zr E 102), some (.int e), some (.int w)] (by decide +kernel) (Nat.le_of_ble_eq_true rfl) rfl ?_
    refine z_iload_n 1 dX10_told_0 rfl rfl ?_
    refine z_iconst 2 (v := nI 0) dX10_told_1 rfl rfl ?_
    refine z_aload_n 3 dX10_told_2 rfl rfl ?_
    refine gX10_141 6 rfl dX10_told_3 rfl ?_
    rw [hlc]
    refine z_iconst 7 (v := nI 1) dX10_told_6 rfl rfl ?_
    refine z_isub 8 dX10_told_7 rfl ?_
    refine z_cSI3 11 (tX10_in) kX10_in dX10_told_8 rfl lX10_91 (Nat.le_of_ble_eq_true rfl) ?_
    rintro _ _ ⟨e1, e2⟩
    replace e1 := e1.symm
    replace e2 := e2.symm
    subst e1
    subst e2
    rw [in_n (by omega)]
    refine z_ifb_eq 37 14 dX10_told_11 (by decide) rfl (fun h11 => ?_) (fun h11 => ?_)
    · refine z_iconst 38 (v := (-1)) dX10_told_37 rfl rfl ?_
      refine z_ri dX10_told_38 rfl ?_
      exact qm0 (if_neg hA) hX Fr.rf
    · refine z_iload_n 15 dX10_told_14 rfl rfl ?_
      refine z_iconst 16 (v := nI 0) dX10_told_15 rfl rfl ?_
      refine z_iconst 17 (v := nI 4) dX10_told_16 rfl rfl ?_
      refine z_cSI3 20 (tX10_in) kX10_in dX10_told_17 rfl lX10_91 (Nat.le_of_ble_eq_true rfl) ?_
      rintro _ _ ⟨e1, e2⟩
      replace e1 := e1.symm
      replace e2 := e2.symm
      subst e1
      subst e2
      rw [in_k (by decide)]
      refine z_ifb_eq 37 23 dX10_told_20 (by decide) rfl (fun h20 => ?_) (fun h20 => ?_)
      · refine z_iconst 38 (v := (-1)) dX10_told_37 rfl rfl ?_
        refine z_ri dX10_told_38 rfl ?_
        exact qm0 (if_neg hA) hX Fr.rf
      · exact absurd ⟨h11, h20⟩ hA
