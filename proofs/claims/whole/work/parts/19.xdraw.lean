/-! drawing, of the landed code -/
def Bx (σ : zM) (b bw : Nat) (u : Nat → Nat → Nat) : Prop := gi σ b 1 = nI bw ∧ bw ≤ 8 ∧ ∀ w, w < bw → ∀ p, p < 10 → gi σ (b + 1) (w * 10 + p) = nI (u w p)
def Dr (σ : zM) (a : Nat) (l : List Nat) : Prop := gi σ a 1 = nI l.length ∧ ∀ i, i < l.length → gi σ (a + 1) i = nI (l.getD i 0)
def Py (σ : zM) (a : Nat) (q : sPly) (b : Nat) : Prop := gi σ a 1 = nI q.1 ∧ gi σ a 2 = nI q.2.1 ∧ gi σ a 3 = nI q.2.2.1 ∧ gi σ a 4 = nI q.2.2.2 ∧ gr σ a 5 = b
def uz (bw : Nat) (u : Nat → Nat → Nat) (w : Nat) : Nat → Nat := fun p => if w < bw then u w p else 0
theorem Bx.fr {P : Nat → Nat → Prop} {σ τ : zM} {b bw : Nat} {u : Nat → Nat → Nat} (h : Bx σ b bw u) (hF : Fr P σ τ) (h1 : ∀ j, ¬ P b j) (h2 : ∀ j, ¬ P (b + 1) j) : Bx τ b bw u := ⟨(hF.gi (h1 1)).trans h.1, h.2.1, fun w hw p hp => (hF.gi (h2 _)).trans (h.2.2 w hw p hp)⟩
theorem Py.fr {P : Nat → Nat → Prop} {σ τ : zM} {a b : Nat} {q : sPly} (h : Py σ a q b) (hF : Fr P σ τ) (h1 : ∀ j, ¬ P a j) : Py τ a q b := ⟨(hF.gi (h1 _)).trans h.1, (hF.gi (h1 _)).trans h.2.1, (hF.gi (h1 _)).trans h.2.2.1, (hF.gi (h1 _)).trans h.2.2.2.1, (hF.gr (h1 _)).trans h.2.2.2.2⟩
theorem Dr.fr {P : Nat → Nat → Prop} {σ τ : zM} {a : Nat} {l : List Nat} (h : Dr σ a l) (hF : Fr P σ τ) (h1 : ∀ j, ¬ P a j) (h2 : ∀ j, ¬ P (a + 1) j) : Dr τ a l := ⟨(hF.gi (h1 1)).trans h.1, fun i hi => (hF.gi (h2 _)).trans (h.2 i hi)⟩
set_option maxRecDepth 20000 in
theorem tX1_usualOf {E : zE} {d : Nat} {σ : zM} {b bw w p : Nat} {u : Nat → Nat → Nat} (hb : (kd b).1 = 1) (hb1 : kd (b + 1) = (11, 80)) (hB : Bx σ b bw u) (hw : w < 2 ^ 31) (hp : p < 10) : Ret E mX1_usualOf d [zr E b, .int (nI w), .int (nI p)] σ (qI fun x τ => x = nI (uz bw u w p) ∧ τ = σ) := by
  obtain ⟨b1, b2, b3⟩ := hB
  by_cases hwb : w < bw
  · have e : uz bw u w p = u w p := if_pos hwb
    rw [e]
    refine Ret.of [some (zr E b), some (.int (nI w)), some (.int (nI p)), none] (by decide +kernel) (Nat.le_of_ble_eq_true rfl) rfl ?_
    refine z_iload_n 1 dX1_usualOf_0 rfl rfl ?_
    refine z_if_lt 26 4 dX1_usualOf_1 (by decide) rfl (fun h1 => ?_) (fun h1 => ?_)
    · exact absurd h1 (nI_pos hw)
    · refine z_iload_n 5 dX1_usualOf_4 rfl rfl ?_
      refine z_aload_n 6 dX1_usualOf_5 rfl rfl ?_
      refine gX1_15 9 rfl dX1_usualOf_6 rfl (by first | assumption | rfl) ?_
      rw [b1]
      refine z_icmp_ge 26 12 dX1_usualOf_9 (by decide) rfl (fun h9 => ?_) (fun h9 => ?_)
      · (try rw [nI_leI (by omega) (by omega)] at h9)
        omega
      · (try rw [nI_leI (by omega) (by omega)] at h9)
        refine z_iload_n 13 dX1_usualOf_12 rfl rfl ?_
        refine z_if_lt 26 16 dX1_usualOf_13 (by decide) rfl (fun h13 => ?_) (fun h13 => ?_)
        · exact absurd h13 (nI_pos (by omega))
        · refine z_iload_n 17 dX1_usualOf_16 rfl rfl ?_
          refine z_bipush 19 (v := nI 10) dX1_usualOf_17 rfl rfl ?_
          refine z_icmp_ge 26 22 dX1_usualOf_19 (by decide) rfl (fun h19 => ?_) (fun h19 => ?_)
          · (try rw [nI_leI (by omega) (by omega)] at h19)
            omega
          · (try rw [nI_leI (by omega) (by omega)] at h19)
            refine z_iconst 23 (v := nI 1) dX1_usualOf_22 rfl rfl ?_
            refine z_goto 27 dX1_usualOf_23 rfl ?_
            refine zs_istore_n_3_4 28 rfl dX1_usualOf_27 rfl rfl ?_
            refine z_iload_n 29 dX1_usualOf_28 rfl rfl ?_
            refine z_if_eq 46 32 dX1_usualOf_29 (by decide) rfl (fun h29 => ?_) (fun h29 => ?_)
            · (try rw [nI_eq0 (by omega)] at h29)
              exact absurd h29 (by decide)
            · (try rw [nI_eq0 (by omega)] at h29)
              refine z_aload_n 33 dX1_usualOf_32 rfl rfl ?_
              refine gX1_9 36 rfl dX1_usualOf_33 rfl (by first | assumption | rfl) ?_
              refine z_iload_n 37 dX1_usualOf_36 rfl rfl ?_
              refine z_bipush 39 (v := nI 10) dX1_usualOf_37 rfl rfl ?_
              refine z_imul 40 dX1_usualOf_39 rfl ?_
              refine z_iload_n 41 dX1_usualOf_40 rfl rfl ?_
              refine z_iadd 42 dX1_usualOf_41 rfl ?_
              rw [nI_mul, nI_add]
              refine z_ialdn 43 dX1_usualOf_42 rfl (by first | assumption | rfl) (by omega) ?_
              refine z_goto 47 dX1_usualOf_43 rfl ?_
              refine z_ri dX1_usualOf_47 rfl ?_
              exact ⟨b3 w (by omega) p hp, rfl⟩
  · have e : uz bw u w p = 0 := if_neg hwb
    rw [e]
    refine Ret.of [some (zr E b), some (.int (nI w)), some (.int (nI p)), none] (by decide +kernel) (Nat.le_of_ble_eq_true rfl) rfl ?_
    refine z_iload_n 1 dX1_usualOf_0 rfl rfl ?_
    refine z_if_lt 26 4 dX1_usualOf_1 (by decide) rfl (fun h1 => ?_) (fun h1 => ?_)
    · exact absurd h1 (nI_pos hw)
    · refine z_iload_n 5 dX1_usualOf_4 rfl rfl ?_
      refine z_aload_n 6 dX1_usualOf_5 rfl rfl ?_
      refine gX1_15 9 rfl dX1_usualOf_6 rfl (by first | assumption | rfl) ?_
      rw [b1]
      refine z_icmp_ge 26 12 dX1_usualOf_9 (by decide) rfl (fun h9 => ?_) (fun h9 => ?_)
      · (try rw [nI_leI (by omega) (by omega)] at h9)
        refine z_iconst 27 (v := nI 0) dX1_usualOf_26 rfl rfl ?_
        refine zs_istore_n_3_4 28 rfl dX1_usualOf_27 rfl rfl ?_
        refine z_iload_n 29 dX1_usualOf_28 rfl rfl ?_
        refine z_if_eq 46 32 dX1_usualOf_29 (by decide) rfl (fun h29 => ?_) (fun h29 => ?_)
        · (try rw [nI_eq0 (by omega)] at h29)
          refine z_iconst 47 (v := nI 0) dX1_usualOf_46 rfl rfl ?_
          refine z_ri dX1_usualOf_47 rfl ?_
          exact ⟨rfl, rfl⟩
        · (try rw [nI_eq0 (by omega)] at h29)
          exact absurd rfl h29
      · (try rw [nI_leI (by omega) (by omega)] at h9)
        omega
set_option maxRecDepth 20000 in
theorem tX2_mostUsual {E : zE} {d : Nat} {σ : zM} {b bw w D : Nat} {u : Nat → Nat → Nat} (hb : (kd b).1 = 1) (hb1 : kd (b + 1) = (11, 80)) (hB : Bx σ b bw u) (hu : ∀ p, p < 10 → uz bw u w p ≤ 9) (hw : w < 2 ^ 31) (hD : D < 2 ^ 31) : Ret E mX2_mostUsual (d + 1) [zr E b, .int (nI w), .int (nI D)] σ (qI fun x τ => x = fI (muR (uz bw u w) D 10) ∧ τ = σ) := by
  refine Ret.of [some (zr E b), some (.int (nI w)), some (.int (nI D)), none, none, none, none] (by decide +kernel) (Nat.le_of_ble_eq_true rfl) rfl ?_
  have loop : ∀ k, k ≤ 10 → ∀ m, m = muV (uz bw u w) (muR (uz bw u w) D k) → m ≤ 9 → At E mX2_mostUsual (d + 1) (qI fun x τ => x = fI (muR (uz bw u w) D 10) ∧ τ = σ) 9 [some (zr E b), some (.int (nI w)), some (.int (nI D)), some (.int (fI (muR (uz bw u w) D k))), some (.int (nI m)), some (.int (nI k)), none] [] σ := by
    refine z_up (fun k hk ih m hm hm9 => ?_)
    by_cases hk10 : k = 10
    · subst hk10
      refine z_iload 11 dX2_mostUsual_9 rfl rfl ?_
      refine z_bipush 13 (v := nI 10) dX2_mostUsual_11 rfl rfl ?_
      refine z_icmp_ge 54 16 dX2_mostUsual_13 (by decide) rfl (fun h13 => ?_) (fun h13 => ?_)
      · (try rw [nI_leI (by omega) (by omega)] at h13)
        refine z_iload_n 55 dX2_mostUsual_54 rfl rfl ?_
        refine z_ri dX2_mostUsual_55 rfl ?_
        exact ⟨rfl, rfl⟩
      · (try rw [nI_leI (by omega) (by omega)] at h13)
        omega
    · have huk := hu k (by omega)
      by_cases hc : m < uz bw u w k ∧ D.testBit k = false
      · have e : muR (uz bw u w) D (k + 1) = some k := by rw [muR, ← hm]; exact if_pos hc
        refine z_iload 11 dX2_mostUsual_9 rfl rfl ?_
        refine z_bipush 13 (v := nI 10) dX2_mostUsual_11 rfl rfl ?_
        refine z_icmp_ge 54 16 dX2_mostUsual_13 (by decide) rfl (fun h13 => ?_) (fun h13 => ?_)
        · (try rw [nI_leI (by omega) (by omega)] at h13)
          omega
        · (try rw [nI_leI (by omega) (by omega)] at h13)
          refine z_aload_n 17 dX2_mostUsual_16 rfl rfl ?_
          refine z_iload_n 18 dX2_mostUsual_17 rfl rfl ?_
          refine z_iload 20 dX2_mostUsual_18 rfl rfl ?_
          refine z_cVI2 23 (tX1_usualOf (by first | assumption | rfl) (by first | assumption | rfl) (by first | assumption | rfl) (by omega) (by omega)) kX1_usualOf dX2_mostUsual_20 rfl lX2_44 (by first | assumption | rfl) (Nat.le_of_ble_eq_true rfl) ?_
          rintro _ _ ⟨e1, e2⟩
          replace e1 := e1.symm
          replace e2 := e2.symm
          subst e1
          subst e2
          refine zs_istore_6_7 25 rfl dX2_mostUsual_23 rfl rfl ?_
          refine z_iload 27 dX2_mostUsual_25 rfl rfl ?_
          refine z_iload 29 dX2_mostUsual_27 rfl rfl ?_
          refine z_icmp_le 48 32 dX2_mostUsual_29 (by decide) rfl (fun h29 => ?_) (fun h29 => ?_)
          · (try rw [nI_leI (by omega) (by omega)] at h29)
            omega
          · (try rw [nI_leI (by omega) (by omega)] at h29)
            refine z_iload_n 33 dX2_mostUsual_32 rfl rfl ?_
            refine z_iload 35 dX2_mostUsual_33 rfl rfl ?_
            refine z_ishr 36 dX2_mostUsual_35 rfl ?_
            refine z_iconst 37 (v := nI 1) dX2_mostUsual_36 rfl rfl ?_
            refine z_iand 38 dX2_mostUsual_37 rfl ?_
            rw [zb_bit hD (by omega), hc.2]
            refine z_if_ne 48 41 dX2_mostUsual_38 (by decide) rfl (fun h38 => ?_) (fun h38 => ?_)
            · exact absurd rfl h38
            · refine z_iload 43 dX2_mostUsual_41 rfl rfl ?_
              refine zs_istore_4_7 45 rfl dX2_mostUsual_43 rfl rfl ?_
              refine z_iload 47 dX2_mostUsual_45 rfl rfl ?_
              refine zs_istore_n_3_7 48 rfl dX2_mostUsual_47 rfl rfl ?_
              refine zs_iinc_5_7_1 51 rfl dX2_mostUsual_48 rfl rfl ?_
              rw [nI_add]
              refine z_goto 9 dX2_mostUsual_51 rfl ?_
              refine zf_6_7 ?_
              have := ih (k + 1) (by omega) (by omega) (uz bw u w k) (by rw [e]; rfl) huk
              rw [e] at this
              exact this
      · have e : muR (uz bw u w) D (k + 1) = muR (uz bw u w) D k := by rw [muR, ← hm]; exact if_neg hc
        refine z_iload 11 dX2_mostUsual_9 rfl rfl ?_
        refine z_bipush 13 (v := nI 10) dX2_mostUsual_11 rfl rfl ?_
        refine z_icmp_ge 54 16 dX2_mostUsual_13 (by decide) rfl (fun h13 => ?_) (fun h13 => ?_)
        · (try rw [nI_leI (by omega) (by omega)] at h13)
          omega
        · (try rw [nI_leI (by omega) (by omega)] at h13)
          refine z_aload_n 17 dX2_mostUsual_16 rfl rfl ?_
          refine z_iload_n 18 dX2_mostUsual_17 rfl rfl ?_
          refine z_iload 20 dX2_mostUsual_18 rfl rfl ?_
          refine z_cVI2 23 (tX1_usualOf (by first | assumption | rfl) (by first | assumption | rfl) (by first | assumption | rfl) (by omega) (by omega)) kX1_usualOf dX2_mostUsual_20 rfl lX2_44 (by first | assumption | rfl) (Nat.le_of_ble_eq_true rfl) ?_
          rintro _ _ ⟨e1, e2⟩
          replace e1 := e1.symm
          replace e2 := e2.symm
          subst e1
          subst e2
          refine zs_istore_6_7 25 rfl dX2_mostUsual_23 rfl rfl ?_
          refine z_iload 27 dX2_mostUsual_25 rfl rfl ?_
          refine z_iload 29 dX2_mostUsual_27 rfl rfl ?_
          refine z_icmp_le 48 32 dX2_mostUsual_29 (by decide) rfl (fun h29 => ?_) (fun h29 => ?_)
          · (try rw [nI_leI (by omega) (by omega)] at h29)
            refine zs_iinc_5_7_1 51 rfl dX2_mostUsual_48 rfl rfl ?_
            rw [nI_add]
            refine z_goto 9 dX2_mostUsual_51 rfl ?_
            refine zf_6_7 ?_
            have := ih (k + 1) (by omega) (by omega) m (by rw [e]; exact hm) hm9
            rw [e] at this
            exact this
          · (try rw [nI_leI (by omega) (by omega)] at h29)
            refine z_iload_n 33 dX2_mostUsual_32 rfl rfl ?_
            refine z_iload 35 dX2_mostUsual_33 rfl rfl ?_
            refine z_ishr 36 dX2_mostUsual_35 rfl ?_
            refine z_iconst 37 (v := nI 1) dX2_mostUsual_36 rfl rfl ?_
            refine z_iand 38 dX2_mostUsual_37 rfl ?_
            rw [zb_bit hD (by omega)]
            refine z_if_ne 48 41 dX2_mostUsual_38 (by decide) rfl (fun h38 => ?_) (fun h38 => ?_)
            · refine zs_iinc_5_7_1 51 rfl dX2_mostUsual_48 rfl rfl ?_
              rw [nI_add]
              refine z_goto 9 dX2_mostUsual_51 rfl ?_
              refine zf_6_7 ?_
              have := ih (k + 1) (by omega) (by omega) m (by rw [e]; exact hm) hm9
              rw [e] at this
              exact this
            · exfalso
              cases ht : D.testBit k with
              | false => exact hc ⟨by omega, ht⟩
              | true => rw [ht] at h38; exact absurd h38 (by decide)
  refine z_bipush 2 (v := (-9)) dX2_mostUsual_0 rfl rfl ?_
  refine zs_istore_n_3_7 3 rfl dX2_mostUsual_2 rfl rfl ?_
  refine z_iconst 4 (v := nI 0) dX2_mostUsual_3 rfl rfl ?_
  refine zs_istore_4_7 6 rfl dX2_mostUsual_4 rfl rfl ?_
  refine z_iconst 7 (v := nI 0) dX2_mostUsual_6 rfl rfl ?_
  refine zs_istore_5_7 9 rfl dX2_mostUsual_7 rfl rfl ?_
  exact loop 0 (by omega) 0 rfl (by omega)
set_option maxRecDepth 20000 in
theorem tX2_add {E : zE} {d : Nat} {σ : zM} {a n : Nat} {v : Int32} (hk : (kd a).1 = 2) (hk1 : kd (a + 1) = (11, 6)) (hs : gi σ a 1 = nI n) (hn : n < 6) : Ret E mX2_add d [zr E a, .int v] σ (qV fun τ => τ = si (si σ (a + 1) n v) a 1 (nI (n + 1))) := by
  refine Ret.of [some (zr E a), some (.int v)] (by decide +kernel) (Nat.le_of_ble_eq_true rfl) rfl ?_
  refine z_aload_n 1 dX2_add_0 rfl rfl ?_
  refine gX2_15 4 rfl dX2_add_1 rfl (by first | assumption | rfl) ?_
  rw [hs]
  refine z_if_lt 39 7 dX2_add_4 (by decide) rfl (fun h4 => ?_) (fun h4 => ?_)
  · exact absurd h4 (nI_pos (by omega))
  · refine z_aload_n 8 dX2_add_7 rfl rfl ?_
    refine gX2_15 11 rfl dX2_add_8 rfl (by first | assumption | rfl) ?_
    rw [hs]
    refine z_aload_n 12 dX2_add_11 rfl rfl ?_
    refine gX2_9 15 rfl dX2_add_12 rfl (by first | assumption | rfl) ?_
    refine z_alen 16 dX2_add_15 rfl (by first | assumption | rfl) ?_
    refine z_icmp_ge 39 19 dX2_add_16 (by decide) rfl (fun h16 => ?_) (fun h16 => ?_)
    · (try rw [nI_leI (by omega) (by omega)] at h16)
      omega
    · (try rw [nI_leI (by omega) (by omega)] at h16)
      refine z_aload_n 20 dX2_add_19 rfl rfl ?_
      refine gX2_9 23 rfl dX2_add_20 rfl (by first | assumption | rfl) ?_
      refine z_aload_n 24 dX2_add_23 rfl rfl ?_
      refine gX2_15 27 rfl dX2_add_24 rfl (by first | assumption | rfl) ?_
      rw [hs]
      refine z_iload_n 28 dX2_add_27 rfl rfl ?_
      refine z_iastn 29 dX2_add_28 rfl (by first | assumption | rfl) (by omega) ?_
      refine z_aload_n 30 dX2_add_29 rfl rfl ?_
      refine z_dup 31 dX2_add_30 rfl rfl ?_
      refine gX2_15 34 rfl dX2_add_31 rfl (by first | assumption | rfl) ?_
      rw [gi_s2 _ _ (by omega), hs]
      refine z_iconst 35 (v := nI 1) dX2_add_34 rfl rfl ?_
      refine z_iadd 36 dX2_add_35 rfl ?_
      rw [nI_add]
      refine pX2_15 39 rfl dX2_add_36 rfl (by first | assumption | rfl) ?_
      refine z_rv dX2_add_39 rfl ?_
      rfl
theorem Dr.add {σ : zM} {a : Nat} {l : List Nat} {p : Nat} (h : Dr σ a l) : Dr (si (si σ (a + 1) l.length (nI p)) a 1 (nI (l.length + 1))) a (l ++ [p]) := by
  refine ⟨?_, fun i hi => ?_⟩
  · rw [gi_s1, List.length_append]; rfl
  · rw [List.length_append] at hi
    have hi : i < l.length + 1 := hi
    rw [gi_s2 _ _ (by omega), gi_si]
    by_cases hil : i = l.length
    · rw [if_pos ⟨rfl, hil⟩, hil]
      simp
    · rw [if_neg (fun z => hil z.2), h.2 i (by omega)]
      congr 1
      rw [List.getD_eq_getElem?_getD, List.getD_eq_getElem?_getD, List.getElem?_append_left (by omega)]
theorem take_snoc {l : List Nat} {i p : Nat} (h : l[i]? = some p) : l.take (i + 1) = l.take i ++ [p] := by
  rw [List.take_add_one, h]; rfl
theorem dList_lt {u : Nat → Nat} (hu : ∀ p, p < 10 → u p ≤ 9) {k p : Nat} (h : p ∈ dList u k) : p < 10 := ((dFull_mem hu p).mp (List.mem_of_mem_take h)).1
theorem bset_lt {l : List Nat} (h : ∀ p ∈ l, p < 10) : bset l < 1024 := pset_lt _ 10 _ (fun i hi => by
  rw [List.getD_eq_getElem?_getD, List.getElem?_eq_getElem hi]
  exact h _ (List.getElem_mem hi))
theorem bset_snoc (l : List Nat) (p : Nat) : bset (l ++ [p]) = bset l ||| 2 ^ p := by
  unfold bset
  rw [List.length_append]
  show pset _ (l.length + 1) = _
  rw [pset]
  congr 1
  · refine pset_congr _ (fun i hi => ?_)
    rw [List.getD_eq_getElem?_getD, List.getD_eq_getElem?_getD, List.getElem?_append_left hi]
  · simp
set_option maxRecDepth 20000 in
theorem tX4_is {E : zE} {d : Nat} {σ : zM} {a b k : Nat} {q : sPly} (hk : (kd a).1 = 4) (hP : Py σ a q b) (hq : q.1 < 6) (hk6 : k < 6) : Ret E mX4_is d [zr E a, .int (nI k)] σ (qI fun x τ => x = bI (decide (q.1 = k ∨ q.1 = 4 ∧ k = 1)) ∧ τ = σ) := by
  have p1 : gi σ a 1 = nI q.1 := hP.1
  refine Ret.of [some (zr E a), some (.int (nI k))] (by decide +kernel) (Nat.le_of_ble_eq_true rfl) rfl ?_
  refine z_aload_n 1 dX4_is_0 rfl rfl ?_
  refine gX4_19 4 rfl dX4_is_1 rfl (by first | assumption | rfl) ?_
  rw [p1]
  refine z_iload_n 5 dX4_is_4 rfl rfl ?_
  refine z_icmp_eq 21 8 dX4_is_5 (by decide) rfl (fun h5 => ?_) (fun h5 => ?_)
  · (try rw [nI_eq (by omega) (by omega)] at h5)
    refine z_iconst 22 (v := nI 1) dX4_is_21 rfl rfl ?_
    refine z_goto 26 dX4_is_22 rfl ?_
    refine z_rz dX4_is_26 rfl (by first | exact Or.inl rfl | exact Or.inr rfl | exact bI_01 _ | assumption) ?_
    first | exact ⟨bI_t (by omega), rfl⟩ | exact ⟨bI_f (by omega), rfl⟩
  · (try rw [nI_eq (by omega) (by omega)] at h5)
    refine z_aload_n 9 dX4_is_8 rfl rfl ?_
    refine gX4_19 12 rfl dX4_is_9 rfl (by first | assumption | rfl) ?_
    rw [p1]
    refine z_iconst 13 (v := nI 4) dX4_is_12 rfl rfl ?_
    refine z_icmp_ne 25 16 dX4_is_13 (by decide) rfl (fun h13 => ?_) (fun h13 => ?_)
    · (try rw [nI_eq (by omega) (by omega)] at h13)
      refine z_iconst 26 (v := nI 0) dX4_is_25 rfl rfl ?_
      refine z_rz dX4_is_26 rfl (by first | exact Or.inl rfl | exact Or.inr rfl | exact bI_01 _ | assumption) ?_
      first | exact ⟨bI_t (by omega), rfl⟩ | exact ⟨bI_f (by omega), rfl⟩
    · (try rw [nI_eq (by omega) (by omega)] at h13)
      refine z_iload_n 17 dX4_is_16 rfl rfl ?_
      refine z_iconst 18 (v := nI 1) dX4_is_17 rfl rfl ?_
      refine z_icmp_ne 25 21 dX4_is_18 (by decide) rfl (fun h18 => ?_) (fun h18 => ?_)
      · (try rw [nI_eq (by omega) (by omega)] at h18)
        refine z_iconst 26 (v := nI 0) dX4_is_25 rfl rfl ?_
        refine z_rz dX4_is_26 rfl (by first | exact Or.inl rfl | exact Or.inr rfl | exact bI_01 _ | assumption) ?_
        first | exact ⟨bI_t (by omega), rfl⟩ | exact ⟨bI_f (by omega), rfl⟩
      · (try rw [nI_eq (by omega) (by omega)] at h18)
        refine z_iconst 22 (v := nI 1) dX4_is_21 rfl rfl ?_
        refine z_goto 26 dX4_is_22 rfl ?_
        refine z_rz dX4_is_26 rfl (by first | exact Or.inl rfl | exact Or.inr rfl | exact bI_01 _ | assumption) ?_
        first | exact ⟨bI_t (by omega), rfl⟩ | exact ⟨bI_f (by omega), rfl⟩
set_option maxRecDepth 20000 in
theorem tX4_drawsAtMost {E : zE} {d : Nat} {σ : zM} {a b : Nat} {q : sPly} (hk : (kd a).1 = 4) (hP : Py σ a q b) (hq : q.1 < 6) (h1 : 1 ≤ q.2.2.1) (h6 : q.2.2.1 ≤ 6) : Ret E mX4_drawsAtMost (d + 1) [zr E a] σ (qI fun x τ => x = nI (dMost q) ∧ τ = σ) := by
  have p1 : gi σ a 3 = nI q.2.2.1 := hP.2.2.1
  refine Ret.of [some (zr E a)] (by decide +kernel) (Nat.le_of_ble_eq_true rfl) rfl ?_
  unfold dMost
  refine z_aload_n 1 dX4_drawsAtMost_0 rfl rfl ?_
  refine z_iconst 2 (v := nI 1) dX4_drawsAtMost_1 rfl rfl ?_
  refine z_cVI1 5 (tX4_is hk hP hq (by decide)) kX4_is dX4_drawsAtMost_2 rfl lX4_36 (by first | assumption | rfl) (Nat.le_of_ble_eq_true rfl) ?_
  rintro _ _ ⟨e1, e2⟩
  replace e1 := e1.symm
  replace e2 := e2.symm
  subst e1
  subst e2
  refine z_ifb_eq 21 8 dX4_drawsAtMost_5 (by decide) rfl (fun h5 => ?_) (fun h5 => ?_)
  · refine z_aload_n 22 dX4_drawsAtMost_21 rfl rfl ?_
    refine gX4_26 25 rfl dX4_drawsAtMost_22 rfl (by first | assumption | rfl) ?_
    refine z_ri dX4_drawsAtMost_25 rfl ?_
    first
      | (rw [p1, if_neg (by omega)]; exact ⟨rfl, rfl⟩)
      | (by_cases hm : 1 < q.2.2.1
         · rw [if_pos ⟨hs, hm⟩, Nat.max_eq_right (by omega)]; exact ⟨rfl, rfl⟩
         · rw [if_neg (by omega), show q.2.2.1 = 1 by omega]; exact ⟨rfl, rfl⟩)
  · have hs : q.1 = 1 ∨ q.1 = 4 := by omega
    refine z_iconst 9 (v := nI 1) dX4_drawsAtMost_8 rfl rfl ?_
    refine z_aload_n 10 dX4_drawsAtMost_9 rfl rfl ?_
    refine gX4_26 13 rfl dX4_drawsAtMost_10 rfl (by first | assumption | rfl) ?_
    rw [p1]
    refine z_iconst 14 (v := nI 1) dX4_drawsAtMost_13 rfl rfl ?_
    refine z_isub 15 dX4_drawsAtMost_14 rfl ?_
    rw [show nI q.2.2.1 - nI 1 = nI (q.2.2.1 - 1) by rw [show q.2.2.1 = (q.2.2.1 - 1) + 1 by omega]; exact nI_pred _]
    refine z_mmax 18 dX4_drawsAtMost_15 rfl lX4_40 kM_max_s kM_i kM_max_c (Nat.le_of_ble_eq_true rfl) ?_
    rw [nI_max (by decide) (by omega)]
    refine z_goto 25 dX4_drawsAtMost_18 rfl ?_
    refine z_ri dX4_drawsAtMost_25 rfl ?_
    first
      | (rw [p1, if_neg (by omega)]; exact ⟨rfl, rfl⟩)
      | (by_cases hm : 1 < q.2.2.1
         · rw [if_pos ⟨hs, hm⟩, Nat.max_eq_right (by omega)]; exact ⟨rfl, rfl⟩
         · rw [if_neg (by omega), show q.2.2.1 = 1 by omega]; exact ⟨rfl, rfl⟩)
theorem dMost_le {q : sPly} (h1 : 1 ≤ q.2.2.1) (h6 : q.2.2.1 ≤ 6) : 1 ≤ dMost q ∧ dMost q ≤ 6 := by
  unfold dMost
  split <;> omega
set_option maxRecDepth 20000 in
theorem tX2_drawBy {E : zE} {d : Nat} {σ : zM} {a b c bw w : Nat} {q : sPly} {u : Nat → Nat → Nat} (ha : (kd a).1 = 2) (ha1 : kd (a + 1) = (11, 6)) (hc : (kd c).1 = 4) (hb : (kd b).1 = 1) (hb1 : kd (b + 1) = (11, 80)) (hP : Py σ c q b) (hq : q.1 < 6) (h1 : 1 ≤ q.2.2.1) (h6 : q.2.2.1 ≤ 6) (hB : Bx σ b bw u) (hu : ∀ p, p < 10 → uz bw u w p ≤ 9) (hw : w < 2 ^ 31) : Ret E mX2_drawBy (d + 2) [zr E a, zr E c, .int (nI w)] σ (qV fun τ => Fr (fun x y => x = a ∧ y = 1 ∨ x = a + 1) σ τ ∧ Dr τ a (dList (uz bw u w) (dMost q))) := by
  obtain ⟨m1, m6⟩ := dMost_le h1 h6
  have hca : c ≠ a := by rintro rfl; rw [ha] at hc; exact absurd hc (by decide)
  have hca1 : c ≠ a + 1 := by rintro rfl; rw [ha1] at hc; exact absurd (show (11 : Nat) = 4 from hc) (by decide)
  have hba : b ≠ a := by rintro rfl; rw [ha] at hb; exact absurd hb (by decide)
  have hba1 : b ≠ a + 1 := by rintro rfl; rw [ha1] at hb; exact absurd (show (11 : Nat) = 1 from hb) (by decide)
  have hba2 : b + 1 ≠ a := by rintro rfl; rw [hb1] at ha; exact absurd (show (11 : Nat) = 2 from ha) (by decide)
  have hba3 : b + 1 ≠ a + 1 := by omega
  have hbr : gr σ c 5 = b := hP.2.2.2.2
  refine Ret.of [some (zr E a), some (zr E c), some (.int (nI w)), none, none, none] (by decide +kernel) (Nat.le_of_ble_eq_true rfl) rfl ?_
  have loop : ∀ i, i ≤ dMost q → ∀ τ, Fr (fun x y => x = a ∧ y = 1 ∨ x = a + 1) σ τ → i ≤ (dFull (uz bw u w)).length → Dr τ a ((dFull (uz bw u w)).take i) → At E mX2_drawBy (d + 2) (qV fun τ => Fr (fun x y => x = a ∧ y = 1 ∨ x = a + 1) σ τ ∧ Dr τ a (dList (uz bw u w) (dMost q))) 13 [some (zr E a), some (zr E c), some (.int (nI w)), some (.int (nI (dMost q - i))), some (.int (nI (bset ((dFull (uz bw u w)).take i)))), none] [] τ := by
    refine z_up (fun i hi ih τ hF hil hD => ?_)
    have hlen : ((dFull (uz bw u w)).take i).length = i := by rw [List.length_take]; omega
    have hBT : Bx τ b bw u := hB.fr hF (by intros; omega) (by intros; omega)
    have hbrT : gr τ c 5 = b := (hF.gr (by omega)).trans hbr
    have hbl : bset ((dFull (uz bw u w)).take i) < 1024 := bset_lt (fun p hp => ((dFull_mem hu p).mp (List.mem_of_mem_take hp)).1)
    have hmu := mu_next hu i
    by_cases him : i = dMost q
    · subst him
      refine z_iload_n 14 dX2_drawBy_13 rfl rfl ?_
      refine z_if_le 58 17 dX2_drawBy_14 (by decide) rfl (fun h14 => ?_) (fun h14 => ?_)
      · (try rw [nI_le0 (by omega)] at h14)
        refine z_rv dX2_drawBy_58 rfl ?_
        exact ⟨hF, hD⟩
      · (try rw [nI_le0 (by omega)] at h14)
        omega
    · cases hx : (dFull (uz bw u w))[i]? with
      | none =>
        rw [hx] at hmu
        refine z_iload_n 14 dX2_drawBy_13 rfl rfl ?_
        refine z_if_le 58 17 dX2_drawBy_14 (by decide) rfl (fun h14 => ?_) (fun h14 => ?_)
        · (try rw [nI_le0 (by omega)] at h14)
          omega
        · (try rw [nI_le0 (by omega)] at h14)
          refine z_aload_n 18 dX2_drawBy_17 rfl rfl ?_
          refine gX2_36 21 rfl dX2_drawBy_18 rfl (by first | assumption | rfl) ?_
          rw [hbrT]
          refine z_iload_n 22 dX2_drawBy_21 rfl rfl ?_
          refine z_iload 24 dX2_drawBy_22 rfl rfl ?_
          refine z_cSI3 27 (tX2_mostUsual hb hb1 hBT hu hw (by omega)) kX2_mostUsual dX2_drawBy_24 rfl lX2_40 (Nat.le_of_ble_eq_true rfl) ?_
          rintro _ _ ⟨e1, e2⟩
          replace e1 := e1.symm
          replace e2 := e2.symm
          subst e1
          subst e2
          rw [hmu]
          refine zs_istore_5_6 29 rfl dX2_drawBy_27 rfl rfl ?_
          refine z_iload 31 dX2_drawBy_29 rfl rfl ?_
          refine z_bipush 33 (v := (-9)) dX2_drawBy_31 rfl rfl ?_
          refine z_icmp_ne 37 36 dX2_drawBy_33 (by decide) rfl (fun h33 => ?_) (fun h33 => ?_)
          · exact absurd rfl h33
          · refine z_rv dX2_drawBy_36 rfl ?_
            refine ⟨hF, ?_⟩
            have hle := List.getElem?_eq_none_iff.mp hx
            show Dr τ a ((dFull (uz bw u w)).take (dMost q))
            rw [List.take_of_length_le (by omega)]
            rw [List.take_of_length_le hle] at hD
            exact hD
      | some p =>
        rw [hx] at hmu
        have hp10 : p < 10 := ((dFull_mem hu p).mp (List.mem_of_getElem? hx)).1
        have hilt : i < (dFull (uz bw u w)).length := (List.getElem?_eq_some_iff.mp hx).1
        have hsn := take_snoc hx
        refine z_iload_n 14 dX2_drawBy_13 rfl rfl ?_
        refine z_if_le 58 17 dX2_drawBy_14 (by decide) rfl (fun h14 => ?_) (fun h14 => ?_)
        · (try rw [nI_le0 (by omega)] at h14)
          omega
        · (try rw [nI_le0 (by omega)] at h14)
          refine z_aload_n 18 dX2_drawBy_17 rfl rfl ?_
          refine gX2_36 21 rfl dX2_drawBy_18 rfl (by first | assumption | rfl) ?_
          rw [hbrT]
          refine z_iload_n 22 dX2_drawBy_21 rfl rfl ?_
          refine z_iload 24 dX2_drawBy_22 rfl rfl ?_
          refine z_cSI3 27 (tX2_mostUsual hb hb1 hBT hu hw (by omega)) kX2_mostUsual dX2_drawBy_24 rfl lX2_40 (Nat.le_of_ble_eq_true rfl) ?_
          rintro _ _ ⟨e1, e2⟩
          replace e1 := e1.symm
          replace e2 := e2.symm
          subst e1
          subst e2
          rw [hmu, show fI (some p) = nI p from rfl]
          refine zs_istore_5_6 29 rfl dX2_drawBy_27 rfl rfl ?_
          refine z_iload 31 dX2_drawBy_29 rfl rfl ?_
          refine z_bipush 33 (v := (-9)) dX2_drawBy_31 rfl rfl ?_
          refine z_icmp_ne 37 36 dX2_drawBy_33 (by decide) rfl (fun h33 => ?_) (fun h33 => ?_)
          · refine z_aload_n 38 dX2_drawBy_37 rfl rfl ?_
            refine z_iload 40 dX2_drawBy_38 rfl rfl ?_
            refine z_cVV1 43 (tX2_add ha ha1 (show gi τ a 1 = nI i by rw [hD.1, hlen]) (by omega)) kX2_add dX2_drawBy_40 rfl lX2_26 (by first | assumption | rfl) (Nat.le_of_ble_eq_true rfl) ?_
            rintro _ e2
            replace e2 := e2.symm
            subst e2
            refine z_iload 45 dX2_drawBy_43 rfl rfl ?_
            refine z_iconst 46 (v := nI 1) dX2_drawBy_45 rfl rfl ?_
            refine z_iload 48 dX2_drawBy_46 rfl rfl ?_
            refine z_ishl 49 dX2_drawBy_48 rfl ?_
            rw [zb_shl (by omega)]
            refine z_ior 50 dX2_drawBy_49 rfl ?_
            rw [zb_or, ← bset_snoc, ← hsn]
            refine zs_istore_4_6 52 rfl dX2_drawBy_50 rfl rfl ?_
            refine zs_iinc_3_6_m1 55 rfl dX2_drawBy_52 rfl rfl ?_
            rw [show nI (dMost q - i) + (-1) = nI (dMost q - (i + 1)) by rw [show dMost q - i = (dMost q - (i + 1)) + 1 by omega]; exact nI_m1 _]
            refine z_goto 13 dX2_drawBy_55 rfl ?_
            refine zf_5_6 (ih (i + 1) (by omega) (by omega) _ ((hF.si _ (by omega)).si _ (by omega)) (by omega) ?_)
            rw [hsn]
            have := hD.add (p := p)
            rwa [hlen] at this
          · exact absurd h33 (fun z => absurd (nI_pos' (show p < 2 ^ 31 by omega)) (by rw [z]; decide))
  refine z_aload_n 1 dX2_drawBy_0 rfl rfl ?_
  refine z_iconst 2 (v := nI 0) dX2_drawBy_1 rfl rfl ?_
  refine pX2_15 5 rfl dX2_drawBy_2 rfl (by first | assumption | rfl) ?_
  refine z_aload_n 6 dX2_drawBy_5 rfl rfl ?_
  refine z_cVI0 9 (tX4_drawsAtMost hc (hP.fr (P := fun x y => x = a ∧ y = 1 ∨ x = a + 1) (Fr.rf.si _ (Or.inl ⟨rfl, rfl⟩)) (by intros; omega)) hq h1 h6) kX4_drawsAtMost dX2_drawBy_6 rfl lX2_30 (by first | assumption | rfl) (Nat.le_of_ble_eq_true rfl) ?_
  rintro _ _ ⟨e1, e2⟩
  replace e1 := e1.symm
  replace e2 := e2.symm
  subst e1
  subst e2
  refine zs_istore_n_3_6 10 rfl dX2_drawBy_9 rfl rfl ?_
  refine z_iconst 11 (v := nI 0) dX2_drawBy_10 rfl rfl ?_
  refine zs_istore_4_6 13 rfl dX2_drawBy_11 rfl rfl ?_
  exact loop 0 (by omega) _ (Fr.rf.si _ (Or.inl ⟨rfl, rfl⟩)) (Nat.zero_le _) ⟨gi_s1 _ _ _ _, fun i hi => absurd hi (Nat.not_lt_zero i)⟩
set_option maxRecDepth 20000 in
theorem tX2_set {E : zE} {d : Nat} {σ : zM} {a : Nat} {l : List Nat} (ha : (kd a).1 = 2) (ha1 : kd (a + 1) = (11, 6)) (hD : Dr σ a l) (hl : l.length ≤ 6) (hp : ∀ p ∈ l, p < 10) : Ret E mX2_set d [zr E a] σ (qI fun x τ => x = nI (bset l) ∧ τ = σ) := by
  refine Ret.of [some (zr E a), none, none] (by decide +kernel) (Nat.le_of_ble_eq_true rfl) rfl ?_
  have hs : gi σ a 1 = nI l.length := hD.1
  have loop : ∀ i, i ≤ l.length → At E mX2_set d (qI fun x τ => x = nI (bset l) ∧ τ = σ) 4 [some (zr E a), some (.int (nI (pset (fun i => l.getD i 0) i))), some (.int (nI i))] [] σ := by
    refine z_up (fun i hi ih => ?_)
    have hgi : ∀ h : i < l.length, l.getD i 0 < 10 := fun h => hp _ (by rw [List.getD_eq_getElem?_getD, List.getElem?_eq_getElem h]; exact List.getElem_mem h)
    refine z_iload_n 5 dX2_set_4 rfl rfl ?_
    refine z_aload_n 6 dX2_set_5 rfl rfl ?_
    refine gX2_15 9 rfl dX2_set_6 rfl (by first | assumption | rfl) ?_
    rw [hs]
    refine z_icmp_ge 29 12 dX2_set_9 (by decide) rfl (fun h9 => ?_) (fun h9 => ?_)
    · (try rw [nI_leI (by omega) (by omega)] at h9)
      have hil : i = l.length := by omega
      subst hil
      refine z_iload_n 30 dX2_set_29 rfl rfl ?_
      refine z_ri dX2_set_30 rfl ?_
      exact ⟨rfl, rfl⟩
    · (try rw [nI_leI (by omega) (by omega)] at h9)
      have hil : i < l.length := by omega
      have hg := hgi hil
      refine z_iload_n 13 dX2_set_12 rfl rfl ?_
      refine z_iconst 14 (v := nI 1) dX2_set_13 rfl rfl ?_
      refine z_aload_n 15 dX2_set_14 rfl rfl ?_
      refine gX2_9 18 rfl dX2_set_15 rfl (by first | assumption | rfl) ?_
      refine z_iload_n 19 dX2_set_18 rfl rfl ?_
      refine z_ialdn 20 dX2_set_19 rfl (by first | assumption | rfl) (by omega) ?_
      rw [hD.2 i hil]
      refine z_ishl 21 dX2_set_20 rfl ?_
      rw [zb_shl (by omega)]
      refine z_ior 22 dX2_set_21 rfl ?_
      rw [zb_or]
      refine zs_istore_n_1_3 23 rfl dX2_set_22 rfl rfl ?_
      refine zs_iinc_2_3_1 26 rfl dX2_set_23 rfl rfl ?_
      rw [nI_add]
      refine z_goto 4 dX2_set_26 rfl ?_
      exact ih (i + 1) (by omega) (by omega)
  refine z_iconst 1 (v := nI 0) dX2_set_0 rfl rfl ?_
  refine zs_istore_n_1_3 2 rfl dX2_set_1 rfl rfl ?_
  refine z_iconst 3 (v := nI 0) dX2_set_2 rfl rfl ?_
  refine zs_istore_n_2_3 4 rfl dX2_set_3 rfl rfl ?_
  exact loop 0 (Nat.zero_le _)
