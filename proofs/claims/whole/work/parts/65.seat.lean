/-! seats: the others sorted -/
def pix (i j x : Nat) : Nat := if x = j then i else if x = i then j else x
theorem sw_pix (f : Nat → Nat) (i j x : Nat) : sw f i j x = f (pix i j x) := by
  unfold sw pix
  by_cases h1 : x = j
  · rw [if_pos h1, if_pos h1]
  · rw [if_neg h1, if_neg h1]
    by_cases h2 : x = i
    · rw [if_pos h2, if_pos h2]
    · rw [if_neg h2, if_neg h2]
theorem pix_pix (i j x : Nat) : pix i j (pix i j x) = x := by
  unfold pix
  by_cases h1 : x = j
  · rw [if_pos h1]
    by_cases h2 : i = j
    · rw [if_pos h2, h1, h2]
    · rw [if_neg h2, if_pos rfl, h1]
  · rw [if_neg h1]
    by_cases h2 : x = i
    · rw [if_pos h2, if_pos rfl, h2]
    · rw [if_neg h2, if_neg h1, if_neg h2]
theorem pix_in {i j n : Nat} (hi : 1 ≤ i ∧ i < n) (hj : 1 ≤ j ∧ j < n) {x : Nat} (h1 : 1 ≤ x) (h2 : x < n) : 1 ≤ pix i j x ∧ pix i j x < n := by
  unfold pix
  split
  · exact hi
  · split
    · exact hj
    · exact ⟨h1, h2⟩
theorem pix_lt {i j n : Nat} (hi : i < n) (hj : j < n) {x : Nat} (h2 : x < n) : pix i j x < n := by
  unfold pix
  split
  · exact hi
  · split
    · exact hj
    · exact h2
def InP (t f : Nat → Nat) (n : Nat) : Prop := f 0 = t 0 ∧ (∀ a b, a < n → b < n → a ≠ b → f a ≠ f b) ∧ (∀ a, 1 ≤ a → a < n → ∃ b, 1 ≤ b ∧ b < n ∧ f a = t b) ∧ (∀ b, 1 ≤ b → b < n → ∃ a, 1 ≤ a ∧ a < n ∧ t b = f a)
theorem InP.sw {t f : Nat → Nat} {n i j : Nat} (h : InP t f n) (hi : 1 ≤ i ∧ i < n) (hj : 1 ≤ j ∧ j < n) : InP t (sw f i j) n := by
  obtain ⟨h1, h2, h3, h4⟩ := h
  refine ⟨?_, fun a b ha hb hab => ?_, fun a a1 an => ?_, fun b b1 bn => ?_⟩
  · rw [sw_pix, show pix i j 0 = 0 by unfold pix; rw [if_neg (by omega), if_neg (by omega)]]
    exact h1
  · rw [sw_pix, sw_pix]
    refine h2 _ _ (pix_lt hi.2 hj.2 ha) (pix_lt hi.2 hj.2 hb) (fun z => hab ?_)
    rw [← pix_pix i j a, z, pix_pix]
  · rw [sw_pix]
    obtain ⟨q1, q2⟩ := pix_in hi hj a1 an
    exact h3 _ q1 q2
  · obtain ⟨a, a1, an, e⟩ := h4 b b1 bn
    obtain ⟨q1, q2⟩ := pix_in hi hj a1 an
    exact ⟨pix i j a, q1, q2, by rw [sw_pix, pix_pix]; exact e⟩
theorem InP.lt {S : sS} {t f : Nat → Nat} {n : Nat} (hT : TbOK S n t) (h : InP t f n) {a : Nat} (ha : a < n) : f a < sPc S := by
  by_cases h0 : a = 0
  · rw [h0, h.1]
    exact (hT.2 0 (by omega)).1
  · obtain ⟨b, b1, bn, e⟩ := h.2.2.1 a (by omega) ha
    rw [e]
    exact (hT.2 b bn).1
/-- sorted below i -/
def SrJ (f : Nat → Nat) (i : Nat) : Prop := ∀ a b, 1 ≤ a → a < b → b < i → f a < f b
def SrK (f : Nat → Nat) (i j : Nat) : Prop := (∀ a b, 1 ≤ a → a < b → b ≤ i → a ≠ j → b ≠ j → f a < f b) ∧ ∀ b, j < b → b ≤ i → f j < f b
theorem SrK.step {f : Nat → Nat} {i j : Nat} (h : SrK f i j) (h2 : 2 ≤ j) (hj : j ≤ i) (hl : f j < f (j - 1)) : SrK (sw f j (j - 1)) i (j - 1) := by
  obtain ⟨k1, k2⟩ := h
  have e1 : sw f j (j - 1) (j - 1) = f j := by unfold sw; rw [if_pos rfl]
  have e2 : sw f j (j - 1) j = f (j - 1) := by unfold sw; rw [if_neg (by omega), if_pos rfl]
  have e3 : ∀ x, x ≠ j → x ≠ j - 1 → sw f j (j - 1) x = f x := fun x a b => by unfold sw; rw [if_neg b, if_neg a]
  refine ⟨fun a b a1 ab bi an bn => ?_, fun b jb bi => ?_⟩
  · by_cases haj : a = j
    · rw [haj, e2, e3 b (by omega) bn]
      exact k1 (j - 1) b (by omega) (by omega) bi (by omega) (by omega)
    · by_cases hbj : b = j
      · rw [hbj, e2, e3 a haj an]
        exact k1 a (j - 1) a1 (by omega) (by omega) haj (by omega)
      · rw [e3 a haj an, e3 b hbj bn]
        exact k1 a b a1 ab bi haj hbj
  · rw [e1]
    by_cases hbj : b = j
    · rw [hbj, e2]
      exact hl
    · rw [e3 b hbj (by omega)]
      exact k2 b (by omega) bi
theorem SrK.fin {f : Nat → Nat} {i j : Nat} (h : SrK f i j) (h1 : 1 ≤ j) (hl : j = 1 ∨ f (j - 1) < f j) : SrJ f (i + 1) := by
  obtain ⟨k1, k2⟩ := h
  intro a b a1 ab bi
  by_cases haj : a = j
  · rw [haj]
    exact k2 b (by omega) (by omega)
  · by_cases hbj : b = j
    · rcases hl with hl | hl
      · omega
      · rw [hbj]
        by_cases haj1 : a = j - 1
        · rw [haj1]
          exact hl
        · have := k1 a (j - 1) a1 (by omega) (by omega) haj (by omega)
          omega
    · exact k1 a b a1 ab (by omega) haj hbj
theorem vS_sur {S : sS} {n : Nat} {t : Nat → Nat} (hT : TbOK S n t) {b : Nat} (b1 : 1 ≤ b) (bn : b < n) : ∃ c, 1 ≤ c ∧ c < n ∧ t b = vS S t n c := by
  have hl := rs_len hT
  have hm : t b ∈ rsL t n (sPc S) := rs_mem.mpr ⟨(hT.2 b bn).1, b - 1, by omega, by rw [show b - 1 + 1 = b by omega]⟩
  obtain ⟨k, hk, e⟩ := List.mem_iff_getElem.mp hm
  refine ⟨k + 1, by omega, by omega, ?_⟩
  unfold vS
  rw [if_neg (by omega), Nat.add_sub_cancel, getD_at hk]
  exact e.symm
theorem sorted_eq {S : sS} {n : Nat} {t f : Nat → Nat} (hT : TbOK S n t) (hP : InP t f n) (hJ : SrJ f n) : ∀ x, x < n → f x = vS S t n x := by
  intro x hx
  by_cases h0 : x = 0
  · rw [h0, hP.1]
    exact (if_pos rfl).symm
  · refine inc_eq hJ (fun a b a1 ab bn => vS_inc hT a1 ab bn) (fun a a1 an => ?_) (fun a a1 an => ?_) (x + 1) x (Nat.lt_succ_self x) (by omega) hx
    · obtain ⟨b, b1, bn, e⟩ := hP.2.2.1 a a1 an
      obtain ⟨c, c1, cn, e2⟩ := vS_sur hT b1 bn
      exact ⟨c, c1, cn, e.trans e2⟩
    · obtain ⟨i, hi, e⟩ := (vS_of hT a1 an).2
      obtain ⟨b, b1, bn, e2⟩ := hP.2.2.2 (i + 1) (by omega) (by omega)
      exact ⟨b, b1, bn, e.symm.trans e2⟩
set_option maxRecDepth 20000 in
theorem tX5_sortOthers {E : zE} {d : Nat} {σ : zM} {S : sS} {n : Nat} {t : Nat → Nat} (hW : WF S) (hT : TbOK S n t) (hD : RdT σ n (sBw S 0) t) : Ret E mX5_sortOthers (d + 1) [zr E 13] σ (qV fun τ => Fr (fun x _ => x = 15) σ τ ∧ ∀ x, x < n → gi τ 15 x = nI (vS S t n x)) := by
  have h8 := hW.2.1.1
  have n2 := hT.1.1
  have n8 := hT.1.2.1
  refine Ret.of [some (zr E 13), none, none] (by decide +kernel) (Nat.le_of_ble_eq_true rfl) rfl ?_
  have outer : ∀ i, i ≤ n → 2 ≤ i → ∀ y f τ, InP t f n → SrJ f i → Fr (fun x _ => x = 15) σ τ → (∀ x, x < n → gi τ 15 x = nI (f x)) → At E mX5_sortOthers (d + 1) (qV fun τ => Fr (fun x _ => x = 15) σ τ ∧ ∀ x, x < n → gi τ 15 x = nI (vS S t n x)) 2 [some (zr E 13), some (.int (nI i)), y] [] τ := by
    refine z_up (fun i hi oh i2 y f τ hP hJ hF hf => ?_)
    have hn : gi τ 13 5 = nI n := (hF.gi (by omega)).trans hD.1
    by_cases hie : i = n
    · rw [hie] at hJ
      refine z_iload_n 3 dX5_sortOthers_2 rfl rfl ?_
      refine z_aload_n 4 dX5_sortOthers_3 rfl rfl ?_
      refine gX5_43 7 rfl dX5_sortOthers_4 rfl (by first | assumption | rfl) ?_
      rw [hn]
      refine z_icmp_ge 57 10 dX5_sortOthers_7 (by decide) rfl (fun h7 => ?_) (fun h7 => ?_)
      · (try rw [nI_leI (by omega) (by omega)] at h7)
        refine z_rv dX5_sortOthers_57 rfl ?_
        exact ⟨hF, fun x hx => by rw [hf x hx, sorted_eq hT hP hJ x hx]⟩
      · (try rw [nI_leI (by omega) (by omega)] at h7)
        omega
    · have hil : i < n := by omega
      have inner : ∀ j, 1 ≤ j → j ≤ i → ∀ f τ, InP t f n → SrK f i j → Fr (fun x _ => x = 15) σ τ → (∀ x, x < n → gi τ 15 x = nI (f x)) → At E mX5_sortOthers (d + 1) (qV fun τ => Fr (fun x _ => x = 15) σ τ ∧ ∀ x, x < n → gi τ 15 x = nI (vS S t n x)) 12 [some (zr E 13), some (.int (nI i)), some (.int (nI j))] [] τ := by
        intro j
        induction j with
        | zero => intro h; omega
        | succ j ih =>
          intro j1 ji f τ hP hK hF hf
          have b1 := hP.lt hT (show j + 1 < n by omega)
          have b2 := hP.lt hT (show j < n by omega)
          by_cases hj0 : j = 0
          · have hJ' : SrJ f (i + 1) := hK.fin j1 (Or.inl (by omega))
            refine z_iload_n 13 dX5_sortOthers_12 rfl rfl ?_
            refine z_iconst 14 (v := nI 1) dX5_sortOthers_13 rfl rfl ?_
            refine z_icmp_le 51 17 dX5_sortOthers_14 (by decide) rfl (fun h14 => ?_) (fun h14 => ?_)
            · (try rw [nI_leI (by omega) (by omega)] at h14)
              refine zs_iinc_1_3_1 54 rfl dX5_sortOthers_51 rfl rfl ?_
              rw [nI_add]
              refine z_goto 2 dX5_sortOthers_54 rfl ?_
              exact oh (i + 1) (by omega) (by omega) (by omega) _ f τ hP hJ' hF hf
            · (try rw [nI_leI (by omega) (by omega)] at h14)
              omega
          · refine z_iload_n 13 dX5_sortOthers_12 rfl rfl ?_
            refine z_iconst 14 (v := nI 1) dX5_sortOthers_13 rfl rfl ?_
            refine z_icmp_le 51 17 dX5_sortOthers_14 (by decide) rfl (fun h14 => ?_) (fun h14 => ?_)
            · (try rw [nI_leI (by omega) (by omega)] at h14)
              omega
            · (try rw [nI_leI (by omega) (by omega)] at h14)
              refine z_aload_n 18 dX5_sortOthers_17 rfl rfl ?_
              refine gX5_15 21 rfl dX5_sortOthers_18 rfl (by first | assumption | rfl) ?_
              refine z_iload_n 22 dX5_sortOthers_21 rfl rfl ?_
              refine z_ialdn 23 dX5_sortOthers_22 rfl (by first | assumption | rfl) (by omega) ?_
              rw [hf (j + 1) (by omega)]
              refine z_aload_n 24 dX5_sortOthers_23 rfl rfl ?_
              refine gX5_15 27 rfl dX5_sortOthers_24 rfl (by first | assumption | rfl) ?_
              refine z_iload_n 28 dX5_sortOthers_27 rfl rfl ?_
              refine z_iconst 29 (v := nI 1) dX5_sortOthers_28 rfl rfl ?_
              refine z_isub 30 dX5_sortOthers_29 rfl ?_
              rw [nI_sub (by omega), Nat.add_sub_cancel]
              refine z_ialdn 31 dX5_sortOthers_30 rfl (by first | assumption | rfl) (by omega) ?_
              rw [hf j (by omega)]
              refine z_icmp_ge 51 34 dX5_sortOthers_31 (by decide) rfl (fun h31 => ?_) (fun h31 => ?_)
              · (try rw [nI_leI (by omega) (by omega)] at h31)
                have hJ' : SrJ f (i + 1) := hK.fin j1 (Or.inr (by rw [Nat.add_sub_cancel]; have := hP.2.1 (j + 1) j (by omega) (by omega) (by omega); omega))
                refine zs_iinc_1_3_1 54 rfl dX5_sortOthers_51 rfl rfl ?_
                rw [nI_add]
                refine z_goto 2 dX5_sortOthers_54 rfl ?_
                exact oh (i + 1) (by omega) (by omega) (by omega) _ f τ hP hJ' hF hf
              · (try rw [nI_leI (by omega) (by omega)] at h31)
                refine z_aload_n 35 dX5_sortOthers_34 rfl rfl ?_
                refine gX5_15 38 rfl dX5_sortOthers_35 rfl (by first | assumption | rfl) ?_
                refine z_iload_n 39 dX5_sortOthers_38 rfl rfl ?_
                refine z_iload_n 40 dX5_sortOthers_39 rfl rfl ?_
                refine z_iconst 41 (v := nI 1) dX5_sortOthers_40 rfl rfl ?_
                refine z_isub 42 dX5_sortOthers_41 rfl ?_
                rw [nI_sub (by omega), Nat.add_sub_cancel]
                refine z_cSNV3 45 (tX9_swap (a := 15) (cap := 8) (f := f) rfl n8 (show j + 1 < n by omega) (show j < n by omega) hf) kX9_swap dX5_sortOthers_42 rfl lX5_90 (Nat.le_of_ble_eq_true rfl) ?_
                rintro τ1 ⟨hF1, hf1⟩
                refine zs_iinc_2_3_m1 48 rfl dX5_sortOthers_45 rfl rfl ?_
                rw [nI_dec (by omega), Nat.add_sub_cancel]
                refine z_goto 12 dX5_sortOthers_48 rfl ?_
                exact ih (by omega) (by omega) _ τ1 (hP.sw (show 1 ≤ j + 1 ∧ j + 1 < n by omega) (show 1 ≤ j ∧ j < n by omega)) (by have := hK.step (show 2 ≤ j + 1 by omega) ji (by rw [Nat.add_sub_cancel]; omega); rw [Nat.add_sub_cancel] at this; exact this) (hF.tr hF1 (fun _ _ h => h) (fun _ _ h => h)) hf1
      refine z_iload_n 3 dX5_sortOthers_2 rfl rfl ?_
      refine z_aload_n 4 dX5_sortOthers_3 rfl rfl ?_
      refine gX5_43 7 rfl dX5_sortOthers_4 rfl (by first | assumption | rfl) ?_
      rw [hn]
      refine z_icmp_ge 57 10 dX5_sortOthers_7 (by decide) rfl (fun h7 => ?_) (fun h7 => ?_)
      · (try rw [nI_leI (by omega) (by omega)] at h7)
        omega
      · (try rw [nI_leI (by omega) (by omega)] at h7)
        refine z_iload_n 11 dX5_sortOthers_10 rfl rfl ?_
        refine zs_istore_n_2_3 12 rfl dX5_sortOthers_11 rfl rfl ?_
        exact inner i (by omega) (Nat.le_refl _) f τ hP ⟨fun a b a1 ab bi an bn => hJ a b a1 ab (by omega), fun b jb bi => by omega⟩ hF hf
  refine z_iconst 1 (v := nI 2) dX5_sortOthers_0 rfl rfl ?_
  refine zs_istore_n_1_3 2 rfl dX5_sortOthers_1 rfl rfl ?_
  exact outer 2 (by omega) (by omega) none t σ ⟨rfl, fun a b ha hb hab e => by
    rcases Nat.lt_or_ge a b with z | z
    · exact (hT.2 b hb).2 a z e.symm
    · exact (hT.2 a ha).2 b (by omega) e, fun a a1 an => ⟨a, a1, an, rfl⟩, fun b b1 bn => ⟨b, b1, bn, rfl⟩⟩ (fun a b a1 ab b2 => by omega) Fr.rf hD.2.2
/-! the best of all orders -/
abbrev sAcc : Type := Option (Nat × Nat × List Nat)
def stB (K : List Nat → Nat) (A : sAcc) (l : List Nat) : sAcc := match A with
  | none => some (K l, 1, l)
  | some q => if q.1 < K l then some (K l, 1, l) else if K l = q.1 then some (q.1, q.2.1 + 1, q.2.2) else some q
def aK (A : sAcc) : Int64 := match A with
  | none => -1
  | some q => lN q.1
def aC (A : sAcc) : Nat := match A with
  | none => 0
  | some q => q.2.1
def kpT (S : sS) (t : Nat → Nat) (n : Nat) (b : Nat → Nat) (l : List Nat) : Nat := fsum (ktG S (tbL S t n l) n b) n
def bdA (A : sAcc) (m : Nat) : Prop := ∀ q, A = some q → q.1 ≤ 2654208 ∧ q.2.1 ≤ m
def xAcc (σ : zM) (S : sS) (t : Nat → Nat) (n : Nat) (A : sAcc) : Prop := gl σ 13 7 = aK A ∧ ∀ q, A = some q → ∀ x, x < n → gi σ 16 x = nI (tbL S t n q.2.2 x)
theorem kpT_le {S : sS} (hW : WF S) {n : Nat} {t b : Nat → Nat} (hT : TbOK S n t) {l : List Nat} (hl : ∀ x, x < n → fnL l x < n ∧ ∀ y, y < x → fnL l x ≠ fnL l y) (hb : ∀ k, k < n → b k < sBw S 0) : kpT S t n b l ≤ 2654208 := by
  have n8 := hT.1.2.1
  have h : kpT S t n b l ≤ 331776 * n := fsum_bd n (fun k hk => ktG_le hW (tbL_ok hT hl) (hb k hk))
  omega
theorem stB_bd {K : List Nat → Nat} {A : sAcc} {m : Nat} {l : List Nat} (h : bdA A m) (hK : K l ≤ 2654208) : bdA (stB K A l) (m + 1) := by
  intro q hq
  cases A with
  | none =>
    have hq : some (K l, 1, l) = some q := hq
    rw [← Option.some.inj hq]
    exact ⟨hK, by show 1 ≤ m + 1; omega⟩
  | some p =>
    obtain ⟨p1, p2⟩ := h p rfl
    have hq : (if p.1 < K l then some (K l, 1, l) else if K l = p.1 then some (p.1, p.2.1 + 1, p.2.2) else some p) = some q := hq
    by_cases h1 : p.1 < K l
    · rw [if_pos h1] at hq
      rw [← Option.some.inj hq]
      exact ⟨hK, by show 1 ≤ m + 1; omega⟩
    · rw [if_neg h1] at hq
      by_cases h2 : K l = p.1
      · rw [if_pos h2] at hq
        rw [← Option.some.inj hq]
        exact ⟨p1, by show p.2.1 + 1 ≤ m + 1; omega⟩
      · rw [if_neg h2] at hq
        rw [← Option.some.inj hq]
        exact ⟨p1, by omega⟩
