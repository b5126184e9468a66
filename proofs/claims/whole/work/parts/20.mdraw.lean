/-! drawing, of the reference -/
def mDr (σ : zM) (j c : Nat) (l : List Nat) : Prop := gi σ 102 j = nI l.length ∧ ∀ i, i < l.length → gi σ c i = nI (l.getD i 0)
def mPy (σ : zM) (p : Nat) (q : sPly) : Prop := gi σ 111 (4 * p + 0) = nI q.1 ∧ gi σ 111 (4 * p + 1) = nI q.2.1 ∧ gi σ 111 (4 * p + 2) = nI q.2.2.1 ∧ gi σ 111 (4 * p + 3) = nI q.2.2.2
def mBx (σ : zM) (l bw : Nat) (u : Nat → Nat → Nat) : Prop := bw ≤ 8 ∧ ∀ w, w < bw → ∀ p, p < 10 → gi σ 110 (80 * l + 10 * w + p) = nI (u w p)
theorem mDr.fr {P : Nat → Nat → Prop} {σ τ : zM} {j c : Nat} {l : List Nat} (h : mDr σ j c l) (hF : Fr P σ τ) (h1 : ¬ P 102 j) (h2 : ∀ i, ¬ P c i) : mDr τ j c l := ⟨(hF.gi h1).trans h.1, fun i hi => (hF.gi (h2 _)).trans (h.2 i hi)⟩
theorem mPy.fr {P : Nat → Nat → Prop} {σ τ : zM} {p : Nat} {q : sPly} (h : mPy σ p q) (hF : Fr P σ τ) (h1 : ∀ j, 4 * p ≤ j → j < 4 * p + 4 → ¬ P 111 j) : mPy τ p q := ⟨(hF.gi (h1 _ (by omega) (by omega))).trans h.1, (hF.gi (h1 _ (by omega) (by omega))).trans h.2.1, (hF.gi (h1 _ (by omega) (by omega))).trans h.2.2.1, (hF.gi (h1 _ (by omega) (by omega))).trans h.2.2.2⟩
theorem mBx.fr {P : Nat → Nat → Prop} {σ τ : zM} {l bw : Nat} {u : Nat → Nat → Nat} (h : mBx σ l bw u) (hF : Fr P σ τ) (h1 : ∀ j, 80 * l ≤ j → j < 80 * l + 80 → ¬ P 110 j) : mBx τ l bw u := ⟨h.1, fun w hw p hp => (hF.gi (h1 _ (by omega) (by have := h.1; omega))).trans (h.2 w hw p hp)⟩
set_option maxRecDepth 20000 in
theorem tX10_use {E : zE} {d : Nat} {σ : zM} {l w p : Nat} (hl : l < 2) (hw : w < 8) (hp : p < 10) : Ret E mX10_use d [zr E 102, .int (nI l), .int (nI w), .int (nI p)] σ (qI fun x τ => x = gi σ 110 (80 * l + 10 * w + p) ∧ τ = σ) := by
  refine Ret.of [some (zr E 102), some (.int (nI l)), some (.int (nI w)), some (.int (nI p))] (by decide +kernel) (Nat.le_of_ble_eq_true rfl) rfl ?_
  refine z_aload_n 1 dX10_use_0 rfl rfl ?_
  refine gX10_35 4 rfl dX10_use_1 rfl ?_
  refine z_bipush 6 (v := nI 80) dX10_use_4 rfl rfl ?_
  refine z_iload_n 7 dX10_use_6 rfl rfl ?_
  refine z_imul 8 dX10_use_7 rfl ?_
  refine z_bipush 10 (v := nI 10) dX10_use_8 rfl rfl ?_
  refine z_iload_n 11 dX10_use_10 rfl rfl ?_
  refine z_imul 12 dX10_use_11 rfl ?_
  refine z_iadd 13 dX10_use_12 rfl ?_
  refine z_iload_n 14 dX10_use_13 rfl rfl ?_
  refine z_iadd 15 dX10_use_14 rfl ?_
  rw [nI_mul, nI_mul, nI_add, nI_add]
  refine z_ialdn 16 dX10_use_15 rfl (by first | assumption | rfl) (by omega) ?_
  refine z_ri dX10_use_16 rfl ?_
  exact ⟨rfl, rfl⟩
set_option maxRecDepth 20000 in
theorem tX10_tell {E : zE} {d : Nat} {σ : zM} {p j : Nat} (hp : p < 9) (hj : j < 4) : Ret E mX10_tell d [zr E 102, .int (nI p), .int (nI j)] σ (qI fun x τ => x = gi σ 111 (4 * p + j) ∧ τ = σ) := by
  refine Ret.of [some (zr E 102), some (.int (nI p)), some (.int (nI j))] (by decide +kernel) (Nat.le_of_ble_eq_true rfl) rfl ?_
  refine z_aload_n 1 dX10_tell_0 rfl rfl ?_
  refine gX10_38 4 rfl dX10_tell_1 rfl ?_
  refine z_iconst 5 (v := nI 4) dX10_tell_4 rfl rfl ?_
  refine z_iload_n 6 dX10_tell_5 rfl rfl ?_
  refine z_imul 7 dX10_tell_6 rfl ?_
  refine z_iload_n 8 dX10_tell_7 rfl rfl ?_
  refine z_iadd 9 dX10_tell_8 rfl ?_
  rw [nI_mul, nI_add]
  refine z_ialdn 10 dX10_tell_9 rfl (by first | assumption | rfl) (by omega) ?_
  refine z_ri dX10_tell_10 rfl ?_
  exact ⟨rfl, rfl⟩
set_option maxRecDepth 20000 in
theorem tX10_isSloppy {E : zE} {d : Nat} {σ : zM} {p : Nat} {q : sPly} (hp : p < 9) (hP : mPy σ p q) (hq : q.1 < 6) : Ret E mX10_isSloppy (d + 1) [zr E 102, .int (nI p)] σ (qI fun x τ => x = bI (decide (q.1 = 1 ∨ q.1 = 4)) ∧ τ = σ) := by
  refine Ret.of [some (zr E 102), some (.int (nI p))] (by decide +kernel) (Nat.le_of_ble_eq_true rfl) rfl ?_
  refine z_aload_n 1 dX10_isSloppy_0 rfl rfl ?_
  refine z_iload_n 2 dX10_isSloppy_1 rfl rfl ?_
  refine z_iconst 3 (v := nI 0) dX10_isSloppy_2 rfl rfl ?_
  refine z_cVI2 6 (tX10_tell (by omega) (by omega)) kX10_tell dX10_isSloppy_3 rfl lX10_165 (by first | assumption | rfl) (Nat.le_of_ble_eq_true rfl) ?_
  rintro _ _ ⟨e1, e2⟩
  replace e1 := e1.symm
  replace e2 := e2.symm
  subst e1
  subst e2
  rw [hP.1]
  refine z_iconst 7 (v := nI 1) dX10_isSloppy_6 rfl rfl ?_
  refine z_icmp_eq 20 10 dX10_isSloppy_7 (by decide) rfl (fun h7 => ?_) (fun h7 => ?_)
  · (try rw [nI_eq (by omega) (by omega)] at h7)
    refine z_iconst 21 (v := nI 1) dX10_isSloppy_20 rfl rfl ?_
    refine z_goto 25 dX10_isSloppy_21 rfl ?_
    refine z_rz dX10_isSloppy_25 rfl (by first | exact Or.inl rfl | exact Or.inr rfl | exact bI_01 _ | assumption) ?_
    first | exact ⟨bI_t (by omega), rfl⟩ | exact ⟨bI_f (by omega), rfl⟩
  · (try rw [nI_eq (by omega) (by omega)] at h7)
    refine z_aload_n 11 dX10_isSloppy_10 rfl rfl ?_
    refine z_iload_n 12 dX10_isSloppy_11 rfl rfl ?_
    refine z_iconst 13 (v := nI 0) dX10_isSloppy_12 rfl rfl ?_
    refine z_cVI2 16 (tX10_tell (by omega) (by omega)) kX10_tell dX10_isSloppy_13 rfl lX10_165 (by first | assumption | rfl) (Nat.le_of_ble_eq_true rfl) ?_
    rintro _ _ ⟨e1, e2⟩
    replace e1 := e1.symm
    replace e2 := e2.symm
    subst e1
    subst e2
    rw [hP.1]
    refine z_iconst 17 (v := nI 4) dX10_isSloppy_16 rfl rfl ?_
    refine z_icmp_ne 24 20 dX10_isSloppy_17 (by decide) rfl (fun h17 => ?_) (fun h17 => ?_)
    · (try rw [nI_eq (by omega) (by omega)] at h17)
      refine z_iconst 25 (v := nI 0) dX10_isSloppy_24 rfl rfl ?_
      refine z_rz dX10_isSloppy_25 rfl (by first | exact Or.inl rfl | exact Or.inr rfl | exact bI_01 _ | assumption) ?_
      first | exact ⟨bI_t (by omega), rfl⟩ | exact ⟨bI_f (by omega), rfl⟩
    · (try rw [nI_eq (by omega) (by omega)] at h17)
      refine z_iconst 21 (v := nI 1) dX10_isSloppy_20 rfl rfl ?_
      refine z_goto 25 dX10_isSloppy_21 rfl ?_
      refine z_rz dX10_isSloppy_25 rfl (by first | exact Or.inl rfl | exact Or.inr rfl | exact bI_01 _ | assumption) ?_
      first | exact ⟨bI_t (by omega), rfl⟩ | exact ⟨bI_f (by omega), rfl⟩
theorem dX_pre (u : Nat → Nat) (t k : Nat) (hk : k ≤ 10) : ∃ Y, dA u (t + 1) = (dA u t ++ (List.range k).filter (fun p => u p == 9 - t)) ++ Y := by
  refine ⟨((List.range (10 - k)).map (k + ·)).filter (fun p => u p == 9 - t), ?_⟩
  rw [dA, List.append_assoc, ← List.filter_append, ← List.range_add, show k + (10 - k) = 10 by omega]
set_option maxRecDepth 20000 in
theorem tX10_setDrawing {E : zE} {d : Nat} {σ : zM} {p w bw : Nat} {q : sPly} {u : Nat → Nat → Nat} (hp : p < 9) (hP : mPy σ p q) (hq : q.1 < 6) (hql : q.2.1 < 2) (h1 : 1 ≤ q.2.2.1) (h6 : q.2.2.1 ≤ 6) (hB : mBx σ q.2.1 bw u) (hw : w < bw) (hu : ∀ p, p < 10 → u w p ≤ 9) : Ret E mX10_setDrawing (d + 2) [zr E 102, .int (nI p), .int (nI w)] σ (qV fun τ => Fr (fun a j => a = 102 ∧ j = 16 ∨ a = 112) σ τ ∧ mDr τ 16 112 (dList (u w) (dMost q))) := by
  obtain ⟨m1, m6⟩ := dMost_le h1 h6
  have hw8 : w < 8 := Nat.lt_of_lt_of_le hw hB.1
  refine Ret.of [some (zr E 102), some (.int (nI p)), some (.int (nI w)), none, none, none] (by decide +kernel) (Nat.le_of_ble_eq_true rfl) rfl ?_
  have outer : ∀ t, t ≤ 9 → ∀ τ, Fr (fun a j => a = 102 ∧ j = 16 ∨ a = 112) σ τ → mDr τ 16 112 ((dA (u w) t).take (dMost q)) → At E mX10_setDrawing (d + 2) (qV fun τ => Fr (fun a j => a = 102 ∧ j = 16 ∨ a = 112) σ τ ∧ mDr τ 16 112 (dList (u w) (dMost q))) 45 [some (zr E 102), some (.int (nI p)), some (.int (nI w)), some (.int (nI (dMost q))), some (.int (nI (9 - t))), none] [] τ := by
    refine z_up (fun t ht oh τ hF hD => ?_)
    by_cases ht9 : t = 9
    · subst ht9
      refine z_iload 47 dX10_setDrawing_45 rfl rfl ?_
      refine z_if_le 119 50 dX10_setDrawing_47 (by decide) rfl (fun h47 => ?_) (fun h47 => ?_)
      · (try rw [nI_le0 (by omega)] at h47)
        refine z_rv dX10_setDrawing_119 rfl ?_
        exact ⟨hF, hD⟩
      · (try rw [nI_le0 (by omega)] at h47)
        omega
    · have inner : ∀ k, k ≤ 10 → ∀ τ, Fr (fun a j => a = 102 ∧ j = 16 ∨ a = 112) σ τ → mDr τ 16 112 ((dA (u w) t ++ (List.range k).filter (fun p => u w p == 9 - t)).take (dMost q)) → At E mX10_setDrawing (d + 2) (qV fun τ => Fr (fun a j => a = 102 ∧ j = 16 ∨ a = 112) σ τ ∧ mDr τ 16 112 (dList (u w) (dMost q))) 53 [some (zr E 102), some (.int (nI p)), some (.int (nI w)), some (.int (nI (dMost q))), some (.int (nI (9 - t))), some (.int (nI k))] [] τ := by
        refine z_up (fun k hk ih τ hF hD => ?_)
        obtain ⟨X, hX⟩ : ∃ X, X = dA (u w) t ++ (List.range k).filter (fun p => u w p == 9 - t) := ⟨_, rfl⟩
        rw [← hX] at hD
        have hPT : mPy τ p q := hP.fr hF (by intros; omega)
        have hBT : mBx τ q.2.1 bw u := hB.fr hF (by intros; omega)
        have hln := hD.1
        have hlt : (X.take (dMost q)).length = min (dMost q) X.length := List.length_take
        refine z_iload 55 dX10_setDrawing_53 rfl rfl ?_
        refine z_bipush 57 (v := nI 10) dX10_setDrawing_55 rfl rfl ?_
        refine z_icmp_ge 113 60 dX10_setDrawing_57 (by decide) rfl (fun h57 => ?_) (fun h57 => ?_)
        · (try rw [nI_leI (by omega) (by omega)] at h57)
          have hk10 : k = 10 := by omega
          have hnx : X.take (dMost q) = (dA (u w) (t + 1)).take (dMost q) := by rw [hX, hk10, dA]
          refine zs_iinc_4_6_m1 116 rfl dX10_setDrawing_113 rfl rfl ?_
          rw [show nI (9 - t) + (-1) = nI (9 - (t + 1)) by rw [show 9 - t = (9 - (t + 1)) + 1 by omega]; exact nI_m1 _]
          refine z_goto 45 dX10_setDrawing_116 rfl ?_
          rw [hnx] at hD
          exact zf_5_6 (oh (t + 1) (by omega) (by omega) _ hF hD)
        · (try rw [nI_leI (by omega) (by omega)] at h57)
          refine z_aload_n 61 dX10_setDrawing_60 rfl rfl ?_
          refine gX10_171 64 rfl dX10_setDrawing_61 rfl ?_
          refine z_iload_n 65 dX10_setDrawing_64 rfl rfl ?_
          rw [hln]
          refine z_icmp_ge 113 68 dX10_setDrawing_65 (by decide) rfl (fun h65 => ?_) (fun h65 => ?_)
          · (try rw [nI_leI (by omega) (by omega)] at h65)
            have hnx : X.take (dMost q) = (dA (u w) (t + 1)).take (dMost q) := by
              obtain ⟨Y, hY⟩ := dX_pre (u w) t k (by omega)
              rw [hY, ← hX, List.take_append_of_le_length (by omega)]
            refine zs_iinc_4_6_m1 116 rfl dX10_setDrawing_113 rfl rfl ?_
            rw [show nI (9 - t) + (-1) = nI (9 - (t + 1)) by rw [show 9 - t = (9 - (t + 1)) + 1 by omega]; exact nI_m1 _]
            refine z_goto 45 dX10_setDrawing_116 rfl ?_
            rw [hnx] at hD
            exact zf_5_6 (oh (t + 1) (by omega) (by omega) _ hF hD)
          · (try rw [nI_leI (by omega) (by omega)] at h65)
            have hXl : X.length < dMost q := by omega
            have hXt : X.take (dMost q) = X := List.take_of_length_le (by omega)
            rw [hXt] at hD hln
            have hrg : (List.range (k + 1)).filter (fun p => u w p == 9 - t) = (List.range k).filter (fun p => u w p == 9 - t) ++ (if u w k = 9 - t then [k] else []) := by
              rw [List.range_succ, List.filter_append]
              congr 1
              by_cases hc : u w k = 9 - t <;> simp [hc]
            refine z_aload_n 69 dX10_setDrawing_68 rfl rfl ?_
            refine z_aload_n 70 dX10_setDrawing_69 rfl rfl ?_
            refine z_iload_n 71 dX10_setDrawing_70 rfl rfl ?_
            refine z_iconst 72 (v := nI 1) dX10_setDrawing_71 rfl rfl ?_
            refine z_cVI2 75 (tX10_tell (by omega) (by omega)) kX10_tell dX10_setDrawing_72 rfl lX10_165 (by first | assumption | rfl) (Nat.le_of_ble_eq_true rfl) ?_
            rintro _ _ ⟨e1, e2⟩
            replace e1 := e1.symm
            replace e2 := e2.symm
            subst e1
            subst e2
            rw [hPT.2.1]
            refine z_iload_n 76 dX10_setDrawing_75 rfl rfl ?_
            refine z_iload 78 dX10_setDrawing_76 rfl rfl ?_
            refine z_cVI3 81 (tX10_use (by omega) (by omega) (by omega)) kX10_use dX10_setDrawing_78 rfl lX10_154 (by first | assumption | rfl) (Nat.le_of_ble_eq_true rfl) ?_
            rintro _ _ ⟨e1, e2⟩
            replace e1 := e1.symm
            replace e2 := e2.symm
            subst e1
            subst e2
            have huk := hu k (by omega)
            rw [hBT.2 w hw k (by omega)]
            refine z_iload 83 dX10_setDrawing_81 rfl rfl ?_
            refine z_icmp_ne 107 86 dX10_setDrawing_83 (by decide) rfl (fun h83 => ?_) (fun h83 => ?_)
            · (try rw [nI_eq (by omega) (by omega)] at h83)
              refine zs_iinc_5_6_1 110 rfl dX10_setDrawing_107 rfl rfl ?_
              rw [nI_add]
              refine z_goto 53 dX10_setDrawing_110 rfl ?_
              first
                | (refine ih (k + 1) (by omega) (by omega) _ hF ?_
                   rw [hrg, if_neg (by omega), List.append_nil, ← hX, hXt]
                   exact hD)
                | (refine ih (k + 1) (by omega) (by omega) _ ((hF.si _ (by omega)).si _ (by omega)) ?_
                   rw [hrg, if_pos (by omega), ← List.append_assoc, ← hX, List.take_of_length_le (by rw [List.length_append]; show X.length + 1 ≤ _; omega)]
                   refine ⟨by rw [gi_s1, List.length_append]; rfl, fun i hi => ?_⟩
                   rw [List.length_append] at hi
                   have hi : i < X.length + 1 := hi
                   rw [gi_s2 _ _ (by omega), gi_si]
                   by_cases hil : i = X.length
                   · rw [if_pos ⟨rfl, hil⟩, hil]; simp
                   · rw [if_neg (fun z => hil z.2), hD.2 i (by omega)]
                     congr 1
                     rw [List.getD_eq_getElem?_getD, List.getD_eq_getElem?_getD, List.getElem?_append_left (by omega)])
            · (try rw [nI_eq (by omega) (by omega)] at h83)
              refine z_aload_n 87 dX10_setDrawing_86 rfl rfl ?_
              refine gX10_41 90 rfl dX10_setDrawing_87 rfl ?_
              refine z_aload_n 91 dX10_setDrawing_90 rfl rfl ?_
              refine gX10_171 94 rfl dX10_setDrawing_91 rfl ?_
              rw [hln]
              refine z_iload 96 dX10_setDrawing_94 rfl rfl ?_
              refine z_iastn 97 dX10_setDrawing_96 rfl (by first | assumption | rfl) (by omega) ?_
              refine z_aload_n 98 dX10_setDrawing_97 rfl rfl ?_
              refine z_dup 99 dX10_setDrawing_98 rfl rfl ?_
              refine gX10_171 102 rfl dX10_setDrawing_99 rfl ?_
              rw [gi_s2 _ _ (by omega), hln]
              refine z_iconst 103 (v := nI 1) dX10_setDrawing_102 rfl rfl ?_
              refine z_iadd 104 dX10_setDrawing_103 rfl ?_
              rw [nI_add]
              refine pX10_171 107 rfl dX10_setDrawing_104 rfl ?_
              refine zs_iinc_5_6_1 110 rfl dX10_setDrawing_107 rfl rfl ?_
              rw [nI_add]
              refine z_goto 53 dX10_setDrawing_110 rfl ?_
              first
                | (refine ih (k + 1) (by omega) (by omega) _ hF ?_
                   rw [hrg, if_neg (by omega), List.append_nil, ← hX, hXt]
                   exact hD)
                | (refine ih (k + 1) (by omega) (by omega) _ ((hF.si _ (by omega)).si _ (by omega)) ?_
                   rw [hrg, if_pos (by omega), ← List.append_assoc, ← hX, List.take_of_length_le (by rw [List.length_append]; show X.length + 1 ≤ _; omega)]
                   refine ⟨by rw [gi_s1, List.length_append]; rfl, fun i hi => ?_⟩
                   rw [List.length_append] at hi
                   have hi : i < X.length + 1 := hi
                   rw [gi_s2 _ _ (by omega), gi_si]
                   by_cases hil : i = X.length
                   · rw [if_pos ⟨rfl, hil⟩, hil]; simp
                   · rw [if_neg (fun z => hil z.2), hD.2 i (by omega)]
                     congr 1
                     rw [List.getD_eq_getElem?_getD, List.getD_eq_getElem?_getD, List.getElem?_append_left (by omega)])
      refine z_iload 47 dX10_setDrawing_45 rfl rfl ?_
      refine z_if_le 119 50 dX10_setDrawing_47 (by decide) rfl (fun h47 => ?_) (fun h47 => ?_)
      · (try rw [nI_le0 (by omega)] at h47)
        omega
      · (try rw [nI_le0 (by omega)] at h47)
        refine z_iconst 51 (v := nI 0) dX10_setDrawing_50 rfl rfl ?_
        refine zs_istore_5_6 53 rfl dX10_setDrawing_51 rfl rfl ?_
        refine inner 0 (by omega) τ hF ?_
        rw [show (List.range 0).filter (fun p => u w p == 9 - t) = [] from rfl, List.append_nil]
        exact hD
  have enter : ∀ m, m = dMost q → At E mX10_setDrawing (d + 2) (qV fun τ => Fr (fun a j => a = 102 ∧ j = 16 ∨ a = 112) σ τ ∧ mDr τ 16 112 (dList (u w) (dMost q))) 35 [some (zr E 102), some (.int (nI p)), some (.int (nI w)), none, none, none] [.int (nI m)] σ := by
    intro m hm
    subst hm
    refine zs_istore_n_3_6 36 rfl dX10_setDrawing_35 rfl rfl ?_
    refine z_aload_n 37 dX10_setDrawing_36 rfl rfl ?_
    refine z_iconst 38 (v := nI 0) dX10_setDrawing_37 rfl rfl ?_
    refine pX10_171 41 rfl dX10_setDrawing_38 rfl ?_
    refine z_bipush 43 (v := nI 9) dX10_setDrawing_41 rfl rfl ?_
    refine zs_istore_4_6 45 rfl dX10_setDrawing_43 rfl rfl ?_
    exact outer 0 (by omega) _ (Fr.rf.si _ (Or.inl ⟨rfl, rfl⟩)) ⟨by rw [gi_s1]; simp [dA], fun i hi => absurd hi (by simp [dA])⟩
  refine z_aload_n 1 dX10_setDrawing_0 rfl rfl ?_
  refine z_iload_n 2 dX10_setDrawing_1 rfl rfl ?_
  refine z_cVI1 5 (tX10_isSloppy (by omega) (by first | assumption | rfl) (by omega)) kX10_isSloppy dX10_setDrawing_2 rfl lX10_168 (by first | assumption | rfl) (Nat.le_of_ble_eq_true rfl) ?_
  rintro _ _ ⟨e1, e2⟩
  replace e1 := e1.symm
  replace e2 := e2.symm
  subst e1
  subst e2
  refine z_ifb_eq 29 8 dX10_setDrawing_5 (by decide) rfl (fun h5 => ?_) (fun h5 => ?_)
  · refine z_aload_n 30 dX10_setDrawing_29 rfl rfl ?_
    refine z_iload_n 31 dX10_setDrawing_30 rfl rfl ?_
    refine z_iconst 32 (v := nI 2) dX10_setDrawing_31 rfl rfl ?_
    refine z_cVI2 35 (tX10_tell (by omega) (by omega)) kX10_tell dX10_setDrawing_32 rfl lX10_165 (by first | assumption | rfl) (Nat.le_of_ble_eq_true rfl) ?_
    rintro _ _ ⟨e1, e2⟩
    replace e1 := e1.symm
    replace e2 := e2.symm
    subst e1
    subst e2
    first
      | (rw [hP.2.2.1]; exact enter _ (by unfold dMost; rw [if_neg (by omega)]))
      | exact enter _ (by unfold dMost; rw [if_pos (by omega)])
  · refine z_aload_n 9 dX10_setDrawing_8 rfl rfl ?_
    refine z_iload_n 10 dX10_setDrawing_9 rfl rfl ?_
    refine z_iconst 11 (v := nI 2) dX10_setDrawing_10 rfl rfl ?_
    refine z_cVI2 14 (tX10_tell (by omega) (by omega)) kX10_tell dX10_setDrawing_11 rfl lX10_165 (by first | assumption | rfl) (Nat.le_of_ble_eq_true rfl) ?_
    rintro _ _ ⟨e1, e2⟩
    replace e1 := e1.symm
    replace e2 := e2.symm
    subst e1
    subst e2
    rw [hP.2.2.1]
    refine z_iconst 15 (v := nI 1) dX10_setDrawing_14 rfl rfl ?_
    refine z_icmp_le 29 18 dX10_setDrawing_15 (by decide) rfl (fun h15 => ?_) (fun h15 => ?_)
    · (try rw [nI_leI (by omega) (by omega)] at h15)
      refine z_aload_n 30 dX10_setDrawing_29 rfl rfl ?_
      refine z_iload_n 31 dX10_setDrawing_30 rfl rfl ?_
      refine z_iconst 32 (v := nI 2) dX10_setDrawing_31 rfl rfl ?_
      refine z_cVI2 35 (tX10_tell (by omega) (by omega)) kX10_tell dX10_setDrawing_32 rfl lX10_165 (by first | assumption | rfl) (Nat.le_of_ble_eq_true rfl) ?_
      rintro _ _ ⟨e1, e2⟩
      replace e1 := e1.symm
      replace e2 := e2.symm
      subst e1
      subst e2
      first
        | (rw [hP.2.2.1]; exact enter _ (by unfold dMost; rw [if_neg (by omega)]))
        | exact enter _ (by unfold dMost; rw [if_pos (by omega)])
    · (try rw [nI_leI (by omega) (by omega)] at h15)
      refine z_aload_n 19 dX10_setDrawing_18 rfl rfl ?_
      refine z_iload_n 20 dX10_setDrawing_19 rfl rfl ?_
      refine z_iconst 21 (v := nI 2) dX10_setDrawing_20 rfl rfl ?_
      refine z_cVI2 24 (tX10_tell (by omega) (by omega)) kX10_tell dX10_setDrawing_21 rfl lX10_165 (by first | assumption | rfl) (Nat.le_of_ble_eq_true rfl) ?_
      rintro _ _ ⟨e1, e2⟩
      replace e1 := e1.symm
      replace e2 := e2.symm
      subst e1
      subst e2
      rw [hP.2.2.1]
      refine z_iconst 25 (v := nI 1) dX10_setDrawing_24 rfl rfl ?_
      refine z_isub 26 dX10_setDrawing_25 rfl ?_
      rw [show nI q.2.2.1 - nI 1 = nI (q.2.2.1 - 1) by rw [show q.2.2.1 = (q.2.2.1 - 1) + 1 by omega]; exact nI_pred _]
      refine z_goto 35 dX10_setDrawing_26 rfl ?_
      first
        | (rw [hP.2.2.1]; exact enter _ (by unfold dMost; rw [if_neg (by omega)]))
        | exact enter _ (by unfold dMost; rw [if_pos (by omega)])
set_option maxRecDepth 20000 in
theorem tX10_drawingSet {E : zE} {d : Nat} {σ : zM} {p w bw : Nat} {q : sPly} {u : Nat → Nat → Nat} (hp : p < 9) (hP : mPy σ p q) (hq : q.1 < 6) (hql : q.2.1 < 2) (h1 : 1 ≤ q.2.2.1) (h6 : q.2.2.1 ≤ 6) (hB : mBx σ q.2.1 bw u) (hw : w < bw) (hu : ∀ p, p < 10 → u w p ≤ 9) : Ret E mX10_drawingSet (d + 3) [zr E 102, .int (nI p), .int (nI w)] σ (qI fun x τ => x = nI (bset (dList (u w) (dMost q))) ∧ Fr (fun a j => a = 102 ∧ j = 16 ∨ a = 112) σ τ ∧ mDr τ 16 112 (dList (u w) (dMost q))) := by
  obtain ⟨m1, m6⟩ := dMost_le h1 h6
  refine Ret.of [some (zr E 102), some (.int (nI p)), some (.int (nI w)), none, none] (by decide +kernel) (Nat.le_of_ble_eq_true rfl) rfl ?_
  obtain ⟨l, hl⟩ : ∃ l, l = dList (u w) (dMost q) := ⟨_, rfl⟩
  have hl6 : l.length ≤ 6 := by rw [hl]; unfold dList; rw [List.length_take]; omega
  have hlp : ∀ x ∈ l, x < 10 := fun x hx => by rw [hl] at hx; exact dList_lt hu hx
  rw [← hl]
  have loop : ∀ τ, Fr (fun a j => a = 102 ∧ j = 16 ∨ a = 112) σ τ → mDr τ 16 112 l → ∀ i, i ≤ l.length → At E mX10_drawingSet (d + 3) (qI fun x τ => x = nI (bset l) ∧ Fr (fun a j => a = 102 ∧ j = 16 ∨ a = 112) σ τ ∧ mDr τ 16 112 l) 11 [some (zr E 102), some (.int (nI p)), some (.int (nI w)), some (.int (nI (pset (fun i => l.getD i 0) i))), some (.int (nI i))] [] τ := by
    intro τ hF hD
    have hs := hD.1
    refine z_up (fun i hi ih => ?_)
    have hgi : ∀ h : i < l.length, l.getD i 0 < 10 := fun h => hlp _ (by rw [List.getD_eq_getElem?_getD, List.getElem?_eq_getElem h]; exact List.getElem_mem h)
    refine z_iload 13 dX10_drawingSet_11 rfl rfl ?_
    refine z_aload_n 14 dX10_drawingSet_13 rfl rfl ?_
    refine gX10_171 17 rfl dX10_drawingSet_14 rfl ?_
    rw [hs]
    refine z_icmp_ge 38 20 dX10_drawingSet_17 (by decide) rfl (fun h17 => ?_) (fun h17 => ?_)
    · (try rw [nI_leI (by omega) (by omega)] at h17)
      have hil : i = l.length := by omega
      subst hil
      refine z_iload_n 39 dX10_drawingSet_38 rfl rfl ?_
      refine z_ri dX10_drawingSet_39 rfl ?_
      exact ⟨rfl, hF, hD⟩
    · (try rw [nI_leI (by omega) (by omega)] at h17)
      have hil : i < l.length := by omega
      have hg := hgi hil
      refine z_iload_n 21 dX10_drawingSet_20 rfl rfl ?_
      refine z_iconst 22 (v := nI 1) dX10_drawingSet_21 rfl rfl ?_
      refine z_aload_n 23 dX10_drawingSet_22 rfl rfl ?_
      refine gX10_41 26 rfl dX10_drawingSet_23 rfl ?_
      refine z_iload 28 dX10_drawingSet_26 rfl rfl ?_
      refine z_ialdn 29 dX10_drawingSet_28 rfl (by first | assumption | rfl) (by omega) ?_
      rw [hD.2 i hil]
      refine z_ishl 30 dX10_drawingSet_29 rfl ?_
      rw [zb_shl (by omega)]
      refine z_ior 31 dX10_drawingSet_30 rfl ?_
      rw [zb_or]
      refine zs_istore_n_3_5 32 rfl dX10_drawingSet_31 rfl rfl ?_
      refine zs_iinc_4_5_1 35 rfl dX10_drawingSet_32 rfl rfl ?_
      rw [nI_add]
      refine z_goto 11 dX10_drawingSet_35 rfl ?_
      exact ih (i + 1) (by omega) (by omega)
  refine z_aload_n 1 dX10_drawingSet_0 rfl rfl ?_
  refine z_iload_n 2 dX10_drawingSet_1 rfl rfl ?_
  refine z_iload_n 3 dX10_drawingSet_2 rfl rfl ?_
  refine z_cVV2 6 (tX10_setDrawing hp hP hq hql h1 h6 hB hw hu) kX10_setDrawing dX10_drawingSet_3 rfl lX10_174 (by first | assumption | rfl) (Nat.le_of_ble_eq_true rfl) ?_
  rintro τ1 ⟨hF1, hD1⟩
  rw [← hl] at hD1
  refine z_iconst 7 (v := nI 0) dX10_drawingSet_6 rfl rfl ?_
  refine zs_istore_n_3_5 8 rfl dX10_drawingSet_7 rfl rfl ?_
  refine z_iconst 9 (v := nI 0) dX10_drawingSet_8 rfl rfl ?_
  refine zs_istore_4_5 11 rfl dX10_drawingSet_9 rfl rfl ?_
  exact loop τ1 hF1 hD1 0 (Nat.zero_le _)
