/-! seats of the reference -/
def mAcc (σ : zM) (S : sS) (t : Nat → Nat) (n : Nat) (A : sAcc) : Prop := gl σ 102 29 = aK A ∧ ∀ q, A = some q → gi σ 102 30 = nI q.2.1 ∧ ∀ x, x < n → gi σ 121 x = nI (tbL S t n q.2.2 x)
theorem mAcc.fr {P : Nat → Nat → Prop} {σ τ : zM} {S : sS} {t : Nat → Nat} {n : Nat} {A : sAcc} (h : mAcc σ S t n A) (hF : Fr P σ τ) (h1 : ¬ P 102 29) (h2 : ¬ P 102 30) (h3 : ∀ j, ¬ P 121 j) : mAcc τ S t n A := ⟨(hF.gl h1).trans h.1, fun q hq => ⟨(hF.gi h2).trans (h.2 q hq).1, fun x hx => (hF.gi (h3 x)).trans ((h.2 q hq).2 x hx)⟩⟩
abbrev fSi (a j : Nat) : Prop := a = 102 ∧ (j = 16 ∨ j = 18 ∨ j = 26 ∨ j = 29 ∨ j = 30) ∨ 112 ≤ a ∧ a ≤ 118 ∨ a = 121
theorem fSi_mS : ∀ a j, fSi a j → mS a j := by unfold mS; intros; omega
def Ris (σ : zM) (S : sS) (t : Nat → Nat) (n : Nat) : Prop := ∀ i, i < n - 1 → gi σ 120 i = nI (vS S t n (i + 1))
theorem fnL_app1 {l : List Nat} {a x : Nat} (h : x < l.length) : fnL (l ++ [a]) x = fnL l x := by
  unfold fnL
  rw [List.getD_eq_getElem?_getD, List.getD_eq_getElem?_getD, List.getElem?_append_left h]
theorem fnL_app2 (l : List Nat) (a : Nat) : fnL (l ++ [a]) l.length = a := by
  unfold fnL
  rw [List.getD_eq_getElem?_getD, List.getElem?_append_right (Nat.le_refl _), Nat.sub_self]
  rfl
theorem cont_iff {l : List Nat} {a : Nat} : l.contains a = true ↔ ∃ x, x < l.length ∧ fnL l x = a := by
  rw [List.contains_iff_mem, List.mem_iff_getElem]
  constructor
  · rintro ⟨i, hi, e⟩
    refine ⟨i, hi, ?_⟩
    unfold fnL
    rw [getD_at hi]
    exact e
  · rintro ⟨x, hx, e⟩
    refine ⟨x, hx, ?_⟩
    unfold fnL at e
    rw [getD_at hx] at e
    exact e
theorem cont_app (l : List Nat) (a b : Nat) : (l ++ [a]).contains b = (l.contains b || decide (b = a)) := by
  rw [List.contains_eq_any_beq, List.contains_eq_any_beq, List.any_append]
  congr 1
  show ((b == a) || false) = _
  rw [Bool.or_false]
  by_cases h : b = a
  · rw [h, beq_self_eq_true, decide_eq_true rfl]
  · rw [decide_eq_false h]
    exact beq_eq_false_iff_ne.mpr h
theorem rng_flat {α : Type} (F : Nat → List α) (i : Nat) : (List.range (i + 1)).flatMap F = (List.range i).flatMap F ++ F i := by
  rw [List.range_succ, List.flatMap_append]
  congr 1
  show F i ++ [] = F i
  exact List.append_nil _
/-- what a row of ranks is, so far -/
def preOK (n : Nat) (pre : List Nat) : Prop := ∀ x, x < pre.length → fnL pre x < n ∧ ∀ y, y < x → fnL pre x ≠ fnL pre y
theorem preOK.app {n : Nat} {pre : List Nat} (h : preOK n pre) {a : Nat} (ha : a < n) (hc : pre.contains a = false) : preOK n (pre ++ [a]) := by
  intro x hx
  rw [List.length_append] at hx
  have hx : x < pre.length + 1 := hx
  by_cases hl : x < pre.length
  · rw [fnL_app1 hl]
    refine ⟨(h x hl).1, fun y hy => ?_⟩
    rw [fnL_app1 (show y < pre.length by omega)]
    exact (h x hl).2 y hy
  · have e : x = pre.length := by omega
    rw [e, fnL_app2]
    refine ⟨ha, fun y hy z => ?_⟩
    rw [fnL_app1 hy] at z
    have : pre.contains a = true := cont_iff.mpr ⟨y, hy, z.symm⟩
    rw [hc] at this
    exact absurd this (by decide)
set_option maxRecDepth 20000 in
theorem tX10_sit {E : zE} {S : sS} {n b : Nat} {t : Nat → Nat} (hW : WF S) (hT : TbOK S n t) (h6 : n ≤ 6) (hb : b < 6) (hP : PdOK S (sR S b) n) : ∀ k d pre A msk (σ : zM), RM S σ → pre.length + k = n → preOK n pre → msk < 2 ^ 10 → (∀ i, i < n - 1 → msk.testBit i = pre.contains (i + 1)) → gi σ 102 22 = nI n → (∀ x, x < pre.length → gi σ 116 x = nI (tbL S t n pre x)) → Ris σ S t n → mAcc σ S t n A → (∃ m, bdA A m) → Ret E mX10_sit (d + 10 + k) [zr E 102, .int (nI pre.length), .int (nI msk), .int (nI b)] σ (qV fun τ => Fr fSi σ τ ∧ RM S τ ∧ mAcc τ S t n ((en (n - 1) 1 k pre).foldl (stB (kpT S t n (gOf (sR S b)))) A) ∧ (∃ m, bdA ((en (n - 1) 1 k pre).foldl (stB (kpT S t n (gOf (sR S b)))) A) m) ∧ ∀ x, x < pre.length → gi τ 116 x = gi σ 116 x) := by
  have h8 := hW.2.1.1
  have hb8 := bw_le hW (show 0 < 2 by omega)
  have n2 := hT.1.1
  have n8 := hT.1.2.1
  have hpb : ∀ k, k < n → gOf (sR S b) k < sBw S 0 := by
    obtain ⟨p, hp, hpn, hp4, hpv⟩ := hP
    exact fun k hk => (hpv k hk).2
  intro k
  induction k with
  | zero =>
    intro d pre A msk σ hX hlen hpre hm0 hmsk hn htb hris hacc hbd
    obtain ⟨m, hbd⟩ := hbd
    have hpl : pre.length = n := by omega
    rw [hpl] at htb ⊢
    have hpre' : ∀ x, x < n → fnL pre x < n ∧ ∀ y, y < x → fnL pre x ≠ fnL pre y := fun x hx => hpre x (by omega)
    have hT' := tbL_ok hT hpre'
    have hB : mTb σ n (tbL S t n pre) := ⟨hn, fun x hx => htb x (by omega)⟩
    have hkl := kpT_le hW hT hpre' hpb
    show Ret E mX10_sit (d + 10) _ σ (qV fun τ => Fr fSi σ τ ∧ RM S τ ∧ mAcc τ S t n (stB (kpT S t n (gOf (sR S b))) A pre) ∧ (∃ m, bdA (stB (kpT S t n (gOf (sR S b))) A pre) m) ∧ ∀ x, x < n → gi τ 116 x = gi σ 116 x)
    have hbd2 : ∃ m, bdA (stB (kpT S t n (gOf (sR S b))) A pre) m := ⟨m + 1, stB_bd hbd hkl⟩
    refine Ret.of [some (zr E 102), some (.int (nI n)), some (.int (nI msk)), some (.int (nI b)), none, none, none] (by decide +kernel) (Nat.le_of_ble_eq_true rfl) rfl ?_
    have fin : ∀ τ A' y6, Fr fSi σ τ → RM S τ → gl τ 102 29 = aK (some A') → (gi τ 102 30 = nI A'.2.1 ∧ ∀ x, x < n → gi τ 121 x = nI (tbL S t n A'.2.2 x)) → (∀ x, x < n → gi τ 116 x = gi σ 116 x) → A'.1 ≤ 2654208 → kpT S t n (gOf (sR S b)) pre ≤ A'.1 → stB (kpT S t n (gOf (sR S b))) A pre = (if kpT S t n (gOf (sR S b)) pre = A'.1 then some (A'.1, A'.2.1 + 1, A'.2.2) else some A') → At E mX10_sit (d + 10) (qV fun τ => Fr fSi σ τ ∧ RM S τ ∧ mAcc τ S t n (stB (kpT S t n (gOf (sR S b))) A pre) ∧ (∃ m, bdA (stB (kpT S t n (gOf (sR S b))) A pre) m) ∧ ∀ x, x < n → gi τ 116 x = gi σ 116 x) 68 [some (zr E 102), some (.int (nI n)), some (.int (nI msk)), some (.int (nI b)), some (.long (lN (kpT S t n (gOf (sR S b)) pre))), none, y6] [] τ := by
      intro τ A' y6 hF hR hk29 hk30 h116 hA1 hle he
      have hk29 : gl τ 102 29 = lN A'.1 := hk29
      refine z_aload_n 69 dX10_sit_68 rfl rfl ?_
      refine z_dup 70 dX10_sit_69 rfl rfl ?_
      refine gX10_273 73 rfl dX10_sit_70 rfl ?_
      rw [hk30.1]
      refine z_lload 75 dX10_sit_73 rfl rfl ?_
      refine z_aload_n 76 dX10_sit_75 rfl rfl ?_
      refine gX10_270 79 rfl dX10_sit_76 rfl ?_
      rw [hk29]
      refine z_lcmp 80 dX10_sit_79 rfl ?_
      refine z_if_ne 87 83 dX10_sit_80 (by decide) rfl (fun h80 => ?_) (fun h80 => ?_)
      · rw [lg_cmp_eq] at h80
        rw [pk_lEQ (by omega) (by omega)] at h80
        rw [if_neg h80] at he
        refine z_iconst 88 (v := nI 0) dX10_sit_87 rfl rfl ?_
        refine z_iadd 89 dX10_sit_88 rfl ?_
        rw [nI_add]
        refine pX10_273 92 rfl dX10_sit_89 rfl ?_
        refine z_rv dX10_sit_92 rfl ?_
        first
          | (have hf : Fr (fun a j => a = 102 ∧ j = 30) τ (si τ 102 30 (nI (A'.2.1 + 0))) := Fr.rf.si _ ⟨rfl, rfl⟩
             refine ⟨hF.tr hf (fun _ _ h => h) (by intros; omega), hR.scr hW (hf.mono (by unfold mS; intros; omega)), ?_, hbd2, fun x hx => (gi_s2 _ _ (by omega)).trans (h116 x hx)⟩
             rw [he]
             exact ⟨hk29, fun q hq => by (rw [← Option.some.inj hq]; exact ⟨gi_s1 _ _ _ _, fun x hx => (gi_s2 _ _ (by omega)).trans (hk30.2 x hx)⟩)⟩)
          | (have hf : Fr (fun a j => a = 102 ∧ j = 30) τ (si τ 102 30 (nI (A'.2.1 + 1))) := Fr.rf.si _ ⟨rfl, rfl⟩
             refine ⟨hF.tr hf (fun _ _ h => h) (by intros; omega), hR.scr hW (hf.mono (by unfold mS; intros; omega)), ?_, hbd2, fun x hx => (gi_s2 _ _ (by omega)).trans (h116 x hx)⟩
             rw [he]
             exact ⟨hk29, fun q hq => by (rw [← Option.some.inj hq]; exact ⟨gi_s1 _ _ _ _, fun x hx => (gi_s2 _ _ (by omega)).trans (hk30.2 x hx)⟩)⟩)
      · rw [lg_cmp_eq] at h80
        rw [pk_lEQ (by omega) (by omega)] at h80
        rw [if_pos h80] at he
        refine z_iconst 84 (v := nI 1) dX10_sit_83 rfl rfl ?_
        refine z_goto 88 dX10_sit_84 rfl ?_
        refine z_iadd 89 dX10_sit_88 rfl ?_
        rw [nI_add]
        refine pX10_273 92 rfl dX10_sit_89 rfl ?_
        refine z_rv dX10_sit_92 rfl ?_
        first
          | (have hf : Fr (fun a j => a = 102 ∧ j = 30) τ (si τ 102 30 (nI (A'.2.1 + 0))) := Fr.rf.si _ ⟨rfl, rfl⟩
             refine ⟨hF.tr hf (fun _ _ h => h) (by intros; omega), hR.scr hW (hf.mono (by unfold mS; intros; omega)), ?_, hbd2, fun x hx => (gi_s2 _ _ (by omega)).trans (h116 x hx)⟩
             rw [he]
             exact ⟨hk29, fun q hq => by (rw [← Option.some.inj hq]; exact ⟨gi_s1 _ _ _ _, fun x hx => (gi_s2 _ _ (by omega)).trans (hk30.2 x hx)⟩)⟩)
          | (have hf : Fr (fun a j => a = 102 ∧ j = 30) τ (si τ 102 30 (nI (A'.2.1 + 1))) := Fr.rf.si _ ⟨rfl, rfl⟩
             refine ⟨hF.tr hf (fun _ _ h => h) (by intros; omega), hR.scr hW (hf.mono (by unfold mS; intros; omega)), ?_, hbd2, fun x hx => (gi_s2 _ _ (by omega)).trans (h116 x hx)⟩
             rw [he]
             exact ⟨hk29, fun q hq => by (rw [← Option.some.inj hq]; exact ⟨gi_s1 _ _ _ _, fun x hx => (gi_s2 _ _ (by omega)).trans (hk30.2 x hx)⟩)⟩)
    have put : ∀ τ y6, Fr fSi σ τ → RM S τ → gi τ 102 22 = nI n → (∀ x, x < n → gi τ 116 x = gi σ 116 x) → stB (kpT S t n (gOf (sR S b))) A pre = some (kpT S t n (gOf (sR S b)) pre, 1, pre) → At E mX10_sit (d + 10) (qV fun τ => Fr fSi σ τ ∧ RM S τ ∧ mAcc τ S t n (stB (kpT S t n (gOf (sR S b))) A pre) ∧ (∃ m, bdA (stB (kpT S t n (gOf (sR S b))) A pre) m) ∧ ∀ x, x < n → gi τ 116 x = gi σ 116 x) 25 [some (zr E 102), some (.int (nI n)), some (.int (nI msk)), some (.int (nI b)), some (.long (lN (kpT S t n (gOf (sR S b)) pre))), none, y6] [] τ := by
      intro τ y6 hF hR hn' h116 he
      have loop : ∀ i, i ≤ n → ∀ τ, Fr fSi σ τ → RM S τ → gi τ 102 22 = nI n → gl τ 102 29 = lN (kpT S t n (gOf (sR S b)) pre) → gi τ 102 30 = nI 0 → (∀ x, x < n → gi τ 116 x = gi σ 116 x) → (∀ x, x < i → gi τ 121 x = nI (tbL S t n pre x)) → At E mX10_sit (d + 10) (qV fun τ => Fr fSi σ τ ∧ RM S τ ∧ mAcc τ S t n (stB (kpT S t n (gOf (sR S b))) A pre) ∧ (∃ m, bdA (stB (kpT S t n (gOf (sR S b))) A pre) m) ∧ ∀ x, x < n → gi τ 116 x = gi σ 116 x) 39 [some (zr E 102), some (.int (nI n)), some (.int (nI msk)), some (.int (nI b)), some (.long (lN (kpT S t n (gOf (sR S b)) pre))), none, some (.int (nI i))] [] τ := by
        refine z_up (fun i hi ih τ hF hR hn' h29 h30 h116 hv => ?_)
        by_cases hie : i = n
        · rw [hie] at hv ⊢
          refine z_iload 41 dX10_sit_39 rfl rfl ?_
          refine z_aload_n 42 dX10_sit_41 rfl rfl ?_
          refine gX10_227 45 rfl dX10_sit_42 rfl ?_
          rw [hn']
          refine z_icmp_ge 68 48 dX10_sit_45 (by decide) rfl (fun h45 => ?_) (fun h45 => ?_)
          · (try rw [nI_leI (by omega) (by omega)] at h45)
            exact fin τ (kpT S t n (gOf (sR S b)) pre, 0, pre) _ hF hR h29 ⟨h30, hv⟩ h116 hkl (Nat.le_refl _) (by rw [he, if_pos rfl])
          · (try rw [nI_leI (by omega) (by omega)] at h45)
            omega
        · have h1 : gi τ 116 i = nI (tbL S t n pre i) := (h116 i (by omega)).trans (htb i (by omega))
          have hf : Fr (fun a j => a = 121) τ (si τ 121 i (nI (tbL S t n pre i))) := Fr.rf.si _ rfl
          refine z_iload 41 dX10_sit_39 rfl rfl ?_
          refine z_aload_n 42 dX10_sit_41 rfl rfl ?_
          refine gX10_227 45 rfl dX10_sit_42 rfl ?_
          rw [hn']
          refine z_icmp_ge 68 48 dX10_sit_45 (by decide) rfl (fun h45 => ?_) (fun h45 => ?_)
          · (try rw [nI_leI (by omega) (by omega)] at h45)
            omega
          · (try rw [nI_leI (by omega) (by omega)] at h45)
            refine z_aload_n 49 dX10_sit_48 rfl rfl ?_
            refine gX10_69 52 rfl dX10_sit_49 rfl ?_
            refine z_iload 54 dX10_sit_52 rfl rfl ?_
            refine z_aload_n 55 dX10_sit_54 rfl rfl ?_
            refine gX10_53 58 rfl dX10_sit_55 rfl ?_
            refine z_iload 60 dX10_sit_58 rfl rfl ?_
            refine z_ialdn 61 dX10_sit_60 rfl (by first | assumption | rfl) (by omega) ?_
            rw [h1]
            refine z_iastn 62 dX10_sit_61 rfl (by first | assumption | rfl) (by omega) ?_
            refine zs_iinc_6_7_1 65 rfl dX10_sit_62 rfl rfl ?_
            rw [nI_add]
            refine z_goto 39 dX10_sit_65 rfl ?_
            exact ih (i + 1) (by omega) (by omega) _ (hF.tr hf (fun _ _ h => h) (by intros; omega)) (hR.scr hW (hf.mono (by unfold mS; intros; omega))) ((gi_s2 _ _ (by omega)).trans hn') h29 ((gi_s2 _ _ (by omega)).trans h30) (fun x hx => (gi_s2 _ _ (by omega)).trans (h116 x hx)) (fun x hx => by
              rw [gi_si]
              by_cases hki : x = i
              · rw [if_pos ⟨rfl, hki⟩, hki]
              · rw [if_neg (fun z => hki z.2)]; exact hv x (by omega))
      have hf : Fr (fun a j => a = 102 ∧ (j = 29 ∨ j = 30)) τ (si (sl τ 102 29 (lN (kpT S t n (gOf (sR S b)) pre))) 102 30 (nI 0)) := (Fr.rf.sl _ ⟨rfl, Or.inl rfl⟩).si _ ⟨rfl, Or.inr rfl⟩
      refine z_aload_n 26 dX10_sit_25 rfl rfl ?_
      refine z_lload 28 dX10_sit_26 rfl rfl ?_
      refine pX10_270 31 rfl dX10_sit_28 rfl ?_
      refine z_aload_n 32 dX10_sit_31 rfl rfl ?_
      refine z_iconst 33 (v := nI 0) dX10_sit_32 rfl rfl ?_
      refine pX10_273 36 rfl dX10_sit_33 rfl ?_
      refine z_iconst 37 (v := nI 0) dX10_sit_36 rfl rfl ?_
      refine zs_istore_6_7 39 rfl dX10_sit_37 rfl rfl ?_
      exact loop 0 (Nat.zero_le _) _ (hF.tr hf (fun _ _ h => h) (by intros; omega)) (hR.scr hW (hf.mono (by unfold mS; intros; omega))) ((gi_s2 _ _ (by omega)).trans hn') (gl_s1 _ _ _ _) (gi_s1 _ _ _ _) (fun x hx => (gi_s2 _ _ (by omega)).trans (h116 x hx)) (fun x hx => absurd hx (Nat.not_lt_zero x))
    refine z_iload_n 1 dX10_sit_0 rfl rfl ?_
    refine z_aload_n 2 dX10_sit_1 rfl rfl ?_
    refine gX10_227 5 rfl dX10_sit_2 rfl ?_
    rw [hn]
    refine z_icmp_ne 93 8 dX10_sit_5 (by decide) rfl (fun h5 => ?_) (fun h5 => ?_)
    · (try rw [nI_eq (by omega) (by omega)] at h5)
      omega
    · (try rw [nI_eq (by omega) (by omega)] at h5)
      refine z_aload_n 9 dX10_sit_8 rfl rfl ?_
      refine z_iload_n 10 dX10_sit_9 rfl rfl ?_
      refine z_cVJ1 13 (tX10_keptOf hW hX hT' hB hb hP) kX10_keptOf dX10_sit_10 rfl lX10_267 (by first | assumption | rfl) (Nat.le_of_ble_eq_true rfl) ?_
      rintro _ τ1 ⟨e1, hF1, hX1, hv1⟩
      subst e1
      have hacc1 := hacc.fr hF1 (by omega) (by omega) (by intros; omega)
      have hn1 : gi τ1 102 22 = nI n := (hF1.gi (by omega)).trans hn
      have hF2 : Fr fSi σ τ1 := hF1.mono (by intros; omega)
      have h116 : ∀ x, x < n → gi τ1 116 x = gi σ 116 x := fun x hx => hF1.gi (by omega)
      rw [show fsum (ktG S (tbL S t n pre) n (gOf (sR S b))) n = kpT S t n (gOf (sR S b)) pre from rfl]
      refine zs_lstore_4_7 15 rfl dX10_sit_13 rfl rfl ?_
      refine z_lload 17 dX10_sit_15 rfl rfl ?_
      refine z_aload_n 18 dX10_sit_17 rfl rfl ?_
      refine gX10_270 21 rfl dX10_sit_18 rfl ?_
      rw [hacc1.1]
      refine z_lcmp 22 dX10_sit_21 rfl ?_
      refine z_if_le 68 25 dX10_sit_22 (by decide) rfl (fun h22 => ?_) (fun h22 => ?_)
      · rw [lg_cmp_le] at h22
        cases A with
        | none => exact absurd h22 (lN_neg (by omega))
        | some q =>
          have hq1 := (hbd q rfl).1
          rw [show aK (some q) = lN q.1 from rfl, pk_lLE (by omega) (by omega)] at h22
          exact fin τ1 q _ hF2 hX1 hacc1.1 (hacc1.2 q rfl) h116 hq1 h22 (if_neg (by omega))
      · rw [lg_cmp_le] at h22
        cases A with
        | none => exact put τ1 _ hF2 hX1 hn1 h116 rfl
        | some q =>
          have hq1 := (hbd q rfl).1
          rw [show aK (some q) = lN q.1 from rfl, pk_lLE (by omega) (by omega)] at h22
          exact put τ1 _ hF2 hX1 hn1 h116 (if_pos (by omega))
  | succ k ih =>
    intro d pre A msk σ hX hlen hpre hm0 hmsk hn htb hris hacc hbd
    show Ret E mX10_sit (d + 10 + k + 1) _ σ _
    refine Ret.of [some (zr E 102), some (.int (nI pre.length)), some (.int (nI msk)), some (.int (nI b)), none, none, none] (by decide +kernel) (Nat.le_of_ble_eq_true rfl) rfl ?_
    have loop : ∀ i, i ≤ n - 1 → ∀ τ, Fr fSi σ τ → RM S τ → mAcc τ S t n (((List.range i).flatMap (fun j => if pre.contains (j + 1) then [] else en (n - 1) 1 k (pre ++ [j + 1]))).foldl (stB (kpT S t n (gOf (sR S b)))) A) → (∃ m, bdA (((List.range i).flatMap (fun j => if pre.contains (j + 1) then [] else en (n - 1) 1 k (pre ++ [j + 1]))).foldl (stB (kpT S t n (gOf (sR S b)))) A) m) → (∀ x, x < pre.length → gi τ 116 x = gi σ 116 x) → At E mX10_sit (d + 10 + k + 1) (qV fun τ => Fr fSi σ τ ∧ RM S τ ∧ mAcc τ S t n ((en (n - 1) 1 (k + 1) pre).foldl (stB (kpT S t n (gOf (sR S b)))) A) ∧ (∃ m, bdA ((en (n - 1) 1 (k + 1) pre).foldl (stB (kpT S t n (gOf (sR S b)))) A) m) ∧ ∀ x, x < pre.length → gi τ 116 x = gi σ 116 x) 96 [some (zr E 102), some (.int (nI pre.length)), some (.int (nI msk)), some (.int (nI b)), some (.int (nI i)), none, none] [] τ := by
      refine z_up (fun i hi lh τ hF hR hacc hbd h116 => ?_)
      have hn' : gi τ 102 22 = nI n := (hF.gi (by omega)).trans hn
      by_cases hie : i = n - 1
      · rw [hie] at hacc hbd ⊢
        refine z_iload 98 dX10_sit_96 rfl rfl ?_
        refine z_aload_n 99 dX10_sit_98 rfl rfl ?_
        refine gX10_227 102 rfl dX10_sit_99 rfl ?_
        rw [hn']
        refine z_iconst 103 (v := nI 1) dX10_sit_102 rfl rfl ?_
        refine z_isub 104 dX10_sit_103 rfl ?_
        rw [nI_sub (by omega)]
        refine z_icmp_ge 149 107 dX10_sit_104 (by decide) rfl (fun h104 => ?_) (fun h104 => ?_)
        · (try rw [nI_leI (by omega) (by omega)] at h104)
          refine z_rv dX10_sit_149 rfl ?_
          exact ⟨hF, hR, hacc, hbd, h116⟩
        · (try rw [nI_leI (by omega) (by omega)] at h104)
          omega
      · have hil : i < n - 1 := by omega
        have hfl := rng_flat (fun j => if pre.contains (j + 1) then [] else en (n - 1) 1 k (pre ++ [j + 1])) i
        have lh1 := lh (i + 1) (by omega) (by omega)
        rw [hfl, List.foldl_append] at lh1
        cases hc : pre.contains (i + 1) with
        | true =>
          have hbit : msk.testBit i = true := by rw [hmsk i hil]; exact hc
          rw [hc] at lh1
          refine z_iload 98 dX10_sit_96 rfl rfl ?_
          refine z_aload_n 99 dX10_sit_98 rfl rfl ?_
          refine gX10_227 102 rfl dX10_sit_99 rfl ?_
          rw [hn']
          refine z_iconst 103 (v := nI 1) dX10_sit_102 rfl rfl ?_
          refine z_isub 104 dX10_sit_103 rfl ?_
          rw [nI_sub (by omega)]
          refine z_icmp_ge 149 107 dX10_sit_104 (by decide) rfl (fun h104 => ?_) (fun h104 => ?_)
          · (try rw [nI_leI (by omega) (by omega)] at h104)
            omega
          · (try rw [nI_leI (by omega) (by omega)] at h104)
            refine z_iload_n 108 dX10_sit_107 rfl rfl ?_
            refine z_iload 110 dX10_sit_108 rfl rfl ?_
            refine z_ishr 111 dX10_sit_110 rfl ?_
            refine z_iconst 112 (v := nI 1) dX10_sit_111 rfl rfl ?_
            refine z_iand 113 dX10_sit_112 rfl ?_
            rw [zb_bit (by omega) (by omega), if_pos hbit]
            refine z_if_ne 143 116 dX10_sit_113 (by decide) rfl (fun h113 => ?_) (fun h113 => ?_)
            · (try rw [nI_eq0 (by omega)] at h113)
              refine zs_iinc_4_7_1 146 rfl dX10_sit_143 rfl rfl ?_
              rw [nI_add]
              refine z_goto 96 dX10_sit_146 rfl ?_
              exact lh1 τ hF hR hacc hbd h116
            · (try rw [nI_eq0 (by omega)] at h113)
              omega
        | false =>
          have hbit : ¬ msk.testBit i = true := by rw [hmsk i hil, hc]; decide
          rw [hc] at lh1
          have hr1 : gi τ 120 i = nI (vS S t n (i + 1)) := (hF.gi (by omega)).trans (hris i hil)
          have hf : Fr (fun a j => a = 116) τ (si τ 116 pre.length (nI (vS S t n (i + 1)))) := Fr.rf.si _ rfl
          have hi9 : 2 ^ i < 2 ^ 10 := Nat.pow_lt_pow_right (by decide) (by omega)
          have hms2 : msk ||| 2 ^ i < 2 ^ 10 := Nat.or_lt_two_pow hm0 hi9
          have hlA : (pre ++ [i + 1]).length = pre.length + 1 := by rw [List.length_append]; rfl
          have sitX : ∀ x, x < (pre ++ [i + 1]).length → gi (si τ 116 pre.length (nI (vS S t n (i + 1)))) 116 x = nI (tbL S t n (pre ++ [i + 1]) x) := by
            intro x hx
            rw [hlA] at hx
            unfold tbL
            rw [gi_si]
            by_cases hl : x = pre.length
            · rw [if_pos ⟨rfl, hl⟩, hl, fnL_app2]
            · rw [if_neg (fun z => hl z.2), fnL_app1 (by omega)]
              exact (h116 x (by omega)).trans (htb x (by omega))
          refine z_iload 98 dX10_sit_96 rfl rfl ?_
          refine z_aload_n 99 dX10_sit_98 rfl rfl ?_
          refine gX10_227 102 rfl dX10_sit_99 rfl ?_
          rw [hn']
          refine z_iconst 103 (v := nI 1) dX10_sit_102 rfl rfl ?_
          refine z_isub 104 dX10_sit_103 rfl ?_
          rw [nI_sub (by omega)]
          refine z_icmp_ge 149 107 dX10_sit_104 (by decide) rfl (fun h104 => ?_) (fun h104 => ?_)
          · (try rw [nI_leI (by omega) (by omega)] at h104)
            omega
          · (try rw [nI_leI (by omega) (by omega)] at h104)
            refine z_iload_n 108 dX10_sit_107 rfl rfl ?_
            refine z_iload 110 dX10_sit_108 rfl rfl ?_
            refine z_ishr 111 dX10_sit_110 rfl ?_
            refine z_iconst 112 (v := nI 1) dX10_sit_111 rfl rfl ?_
            refine z_iand 113 dX10_sit_112 rfl ?_
            rw [zb_bit (by omega) (by omega), if_neg hbit]
            refine z_if_ne 143 116 dX10_sit_113 (by decide) rfl (fun h113 => ?_) (fun h113 => ?_)
            · (try rw [nI_eq0 (by omega)] at h113)
              omega
            · (try rw [nI_eq0 (by omega)] at h113)
              refine z_aload_n 117 dX10_sit_116 rfl rfl ?_
              refine gX10_53 120 rfl dX10_sit_117 rfl ?_
              refine z_iload_n 121 dX10_sit_120 rfl rfl ?_
              refine z_aload_n 122 dX10_sit_121 rfl rfl ?_
              refine gX10_66 125 rfl dX10_sit_122 rfl ?_
              refine z_iload 127 dX10_sit_125 rfl rfl ?_
              refine z_ialdn 128 dX10_sit_127 rfl (by first | assumption | rfl) (by omega) ?_
              rw [hr1]
              refine z_iastn 129 dX10_sit_128 rfl (by first | assumption | rfl) (by omega) ?_
              refine z_aload_n 130 dX10_sit_129 rfl rfl ?_
              refine z_iload_n 131 dX10_sit_130 rfl rfl ?_
              refine z_iconst 132 (v := nI 1) dX10_sit_131 rfl rfl ?_
              refine z_iadd 133 dX10_sit_132 rfl ?_
              rw [nI_add]
              refine z_iload_n 134 dX10_sit_133 rfl rfl ?_
              refine z_iconst 135 (v := nI 1) dX10_sit_134 rfl rfl ?_
              refine z_iload 137 dX10_sit_135 rfl rfl ?_
              refine z_ishl 138 dX10_sit_137 rfl ?_
              rw [zb_shl (by omega)]
              refine z_ior 139 dX10_sit_138 rfl ?_
              rw [zb_or]
              refine z_iload_n 140 dX10_sit_139 rfl rfl ?_
              refine z_cVV3 143 (by rw [← hlA]; exact ih d (pre ++ [i + 1]) _ (msk ||| 2 ^ i) (si τ 116 pre.length (nI (vS S t n (i + 1)))) (hR.scr hW (hf.mono (by unfold mS; intros; omega))) (by omega) (hpre.app (by omega) hc) hms2 (fun j hj => by rw [Nat.testBit_or, hmsk j hj, cont_app, Nat.testBit_two_pow]; congr 1; exact decide_eq_decide.mpr ⟨fun z => by omega, fun z => by omega⟩) ((gi_s2 _ _ (by omega)).trans hn') (fun x hx => sitX x hx) (fun j hj => (gi_s2 _ _ (by omega)).trans ((hF.gi (by omega)).trans (hris j hj))) (hacc.fr hf (by omega) (by omega) (by intros; omega)) hbd) kX10_sit dX10_sit_140 rfl lX10_276 (by first | assumption | rfl) (Nat.le_of_ble_eq_true rfl) ?_
              rintro τ1 ⟨hF1, hX1, hacc1, hbd1, h1161⟩
              refine zs_iinc_4_7_1 146 rfl dX10_sit_143 rfl rfl ?_
              rw [nI_add]
              refine z_goto 96 dX10_sit_146 rfl ?_
              exact lh1 τ1 ((hF.tr hf (R := fSi) (fun _ _ h => h) (by intros; omega)).tr hF1 (fun _ _ h => h) (fun _ _ h => h)) hX1 hacc1 hbd1 (fun x hx => ((h1161 x (by omega)).trans (gi_s2 _ _ (by omega))).trans (h116 x hx))
    refine z_iload_n 1 dX10_sit_0 rfl rfl ?_
    refine z_aload_n 2 dX10_sit_1 rfl rfl ?_
    refine gX10_227 5 rfl dX10_sit_2 rfl ?_
    rw [hn]
    refine z_icmp_ne 93 8 dX10_sit_5 (by decide) rfl (fun h5 => ?_) (fun h5 => ?_)
    · (try rw [nI_eq (by omega) (by omega)] at h5)
      refine z_iconst 94 (v := nI 0) dX10_sit_93 rfl rfl ?_
      refine zs_istore_4_7 96 rfl dX10_sit_94 rfl rfl ?_
      exact loop 0 (Nat.zero_le _) σ Fr.rf hX hacc hbd (fun x hx => rfl)
    · (try rw [nI_eq (by omega) (by omega)] at h5)
      omega
