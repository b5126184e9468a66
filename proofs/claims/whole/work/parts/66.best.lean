/-! seats of the landed code -/
abbrev fSb (x y : Nat) : Prop := 15 ≤ x ∧ x ≤ 18 ∨ x = 13 ∧ y = 7
theorem fSb_xS : ∀ a j, fSb a j → xS a j := by unfold xS; intros; omega
def AllS (S : sS) (σ : zM) (n : Nat) (t : Nat → Nat) : Prop := ∀ i, i < n → ∀ j, j < n → i ≠ j → StK S σ (t i) (t j)
theorem AllS.fr {S : sS} {P : Nat → Nat → Prop} {σ τ : zM} {n : Nat} {t : Nat → Nat} (h : AllS S σ n t) (hF : Fr P σ τ) (h1 : ∀ j, ¬ P 14 j) : AllS S τ n t := fun i hi j hj hij => (h i hi j hj hij).fr hF h1
theorem AllS.any {S : sS} {σ : zM} {n : Nat} {t : Nat → Nat} (hT : TbOK S n t) (h : AllS S σ n t) {r s : Nat} (hr : r < n) (hs : s < n) (hrs : r ≠ s) : StK S σ (vS S t n r) (vS S t n s) := by
  have key : ∀ r, r < n → ∃ i, i < n ∧ t i = vS S t n r := fun r hr => by
    by_cases h0 : r = 0
    · refine ⟨0, by omega, ?_⟩
      rw [h0]
      exact (if_pos rfl).symm
    · obtain ⟨i, hi, e⟩ := (vS_of hT (by omega) hr).2
      exact ⟨i + 1, by omega, e⟩
  obtain ⟨i, hi, ei⟩ := key r hr
  obtain ⟨j, hj, ej⟩ := key s hs
  rw [← ei, ← ej]
  refine h i hi j hj (fun z => ?_)
  exact vS_ne hT hr hs hrs (by rw [← ei, ← ej, z])
theorem AllS.adj {S : sS} {σ : zM} {n : Nat} {t : Nat → Nat} (hT : TbOK S n t) (h : AllS S σ n t) {l : List Nat} (hl : ∀ x, x < n → fnL l x < n ∧ ∀ y, y < x → fnL l x ≠ fnL l y) : AdjA S σ n (tbL S t n l) := fun i hi => by
  have n2 := hT.1.1
  have hm := Nat.mod_lt (i + 1) (show n > 0 by omega)
  refine h.any hT (hl i hi).1 (hl _ hm).1 ?_
  have hne : i ≠ (i + 1) % n := by
    by_cases z : i + 1 = n
    · rw [z, Nat.mod_self]
      omega
    · rw [Nat.mod_eq_of_lt (by omega)]
      omega
  rcases Nat.lt_or_ge i ((i + 1) % n) with z | z
  · exact fun e => (hl _ hm).2 i z e.symm
  · exact (hl i hi).2 _ (by omega)
set_option maxRecDepth 100000 in
theorem z_2 : (en 1 1 1 [0]).all (fun l => fnL l 0 == 0) = true := by decide +kernel
set_option maxRecDepth 100000 in
theorem z_4 : (en 3 1 3 [0]).all (fun l => fnL l 0 == 0) = true := by decide +kernel
set_option maxRecDepth 100000 in
theorem z_6 : (en 5 1 5 [0]).all (fun l => fnL l 0 == 0) = true := by decide +kernel
theorem z_n {n : Nat} (hT : tbP n) (h6 : n ≤ 6) : ∀ l, l ∈ en (n - 1) 1 (n - 1) [0] → fnL l 0 = 0 := by
  have h : n = 2 ∨ n = 4 ∨ n = 6 := by
    have := hT.1
    have := hT.2.2
    omega
  rcases h with rfl | rfl | rfl
  · exact fun l hl => eq_of_beq (List.all_eq_true.mp z_2 l hl)
  · exact fun l hl => eq_of_beq (List.all_eq_true.mp z_4 l hl)
  · exact fun l hl => eq_of_beq (List.all_eq_true.mp z_6 l hl)
/-- an order of ranks, the first one staying -/
def rkL (n : Nat) (l : List Nat) : Prop := fnL l 0 = 0 ∧ ∀ x, x < n → fnL l x < n ∧ ∀ y, y < x → fnL l x ≠ fnL l y
theorem rk_mono {S : sS} {n : Nat} {t : Nat → Nat} (hT : TbOK S n t) {l : List Nat} (h : rkL n l) : ∀ x y, 1 ≤ x → x < n → 1 ≤ y → y < n → (vS S t n (fnL l x) ≤ vS S t n (fnL l y) ↔ fnL l x ≤ fnL l y) := by
  intro x y x1 xn y1 yn
  have hx := (h.2 x xn).2 0 (by omega)
  have hy := (h.2 y yn).2 0 (by omega)
  rw [h.1] at hx hy
  exact vS_le hT (by omega) (h.2 x xn).1 (by omega) (h.2 y yn).1
set_option maxRecDepth 20000 in
theorem tX5_seatBest {E : zE} {d : Nat} {σ : zM} {S : sS} {n b : Nat} {t : Nat → Nat} (hW : WF S) (hX : RX S σ) (hT : TbOK S n t) (h6 : n ≤ 6) (hD : RdT σ n (sBw S 0) t) (hA : AllS S σ n t) (hb : b < 6) (hP : PdOK S (sR S b) n) : Ret E mX5_seatBest (d + 3) [zr E 13, zr E (24 + 2 * b)] σ (qI fun x τ => x = nI (aC ((en (n - 1) 1 (n - 1) [0]).foldl (stB (kpT S t n (gOf (sR S b)))) none)) ∧ Fr fSb σ τ ∧ RX S τ ∧ xAcc τ S t n ((en (n - 1) 1 (n - 1) [0]).foldl (stB (kpT S t n (gOf (sR S b)))) none)) := by
  have h8 := hW.2.1.1
  have hb8 := bw_le hW (show 0 < 2 by omega)
  have n2 := hT.1.1
  have n8 := hT.1.2.1
  have hk := kd_r hb
  obtain ⟨g1, g2, g3, r0, g4⟩ := sOK_of (s_n hT.1 h6)
  generalize hR : (en (n - 1) 1 (n - 1) [0]).foldl (stB (kpT S t n (gOf (sR S b)))) none = R
  have hpb : ∀ k, k < n → gOf (sR S b) k < sBw S 0 := by
    obtain ⟨p, hp, hpn, hp4, hpv⟩ := hP
    exact fun k hk => (hpv k hk).2
  refine Ret.of [some (zr E 13), some (zr E (24 + 2 * b)), none, none, none, none, none] (by decide +kernel) (Nat.le_of_ble_eq_true rfl) rfl ?_
  have body : ∀ l A m τ, rkL n l → m < 720 → bdA A m → Fr fSb σ τ → RX S τ → (∀ x, x < n → gi τ 15 x = nI (tbL S t n l x)) → xAcc τ S t n A → (∀ τ1, Fr fSb σ τ1 → RX S τ1 → (∀ x, x < n → gi τ1 15 x = nI (tbL S t n l x)) → xAcc τ1 S t n (stB (kpT S t n (gOf (sR S b))) A l) → ∀ y, At E mX5_seatBest (d + 3) (qI fun x τ => x = nI (aC R) ∧ Fr fSb σ τ ∧ RX S τ ∧ xAcc τ S t n R) 83 [some (zr E 13), some (zr E (24 + 2 * b)), some (.int (nI (aC (stB (kpT S t n (gOf (sR S b))) A l)))), some (.int (nI 1)), some (.int (nI m)), y, none] [] τ1) → ∀ y, At E mX5_seatBest (d + 3) (qI fun x τ => x = nI (aC R) ∧ Fr fSb σ τ ∧ RX S τ ∧ xAcc τ S t n R) 18 [some (zr E 13), some (zr E (24 + 2 * b)), some (.int (nI (aC A))), some (.int (nI 1)), some (.int (nI m)), y, none] [] τ := by
    intro l A m τ hl hm hbd hF hR' hf hx k y
    have hT' := tbL_ok hT hl.2
    have hkl := kpT_le hW hT hl.2 hpb
    have hD' : RdT τ n (sBw S 0) (tbL S t n l) := ⟨(hF.gi (by omega)).trans hD.1, (hF.gi (by omega)).trans hD.2.1, hf⟩
    have hA' : AdjA S τ n (tbL S t n l) := (hA.fr hF (by intros; omega)).adj hT hl.2
    have put : ∀ τ1, Fr fSb σ τ1 → RX S τ1 → (∀ x, x < n → gi τ1 15 x = nI (tbL S t n l x)) → stB (kpT S t n (gOf (sR S b))) A l = some (kpT S t n (gOf (sR S b)) l, 1, l) → At E mX5_seatBest (d + 3) (qI fun x τ => x = nI (aC R) ∧ Fr fSb σ τ ∧ RX S τ ∧ xAcc τ S t n R) 47 [some (zr E 13), some (zr E (24 + 2 * b)), some (.int (nI (aC A))), some (.int (nI 1)), some (.int (nI m)), some (.long (lN (kpT S t n (gOf (sR S b)) l))), none] [] τ1 := by
      intro τ1 hF1 hX1 hf1 e1
      have hk1 := k (sf (sl τ1 13 7 (lN (kpT S t n (gOf (sR S b)) l))) 16 (va_cpy (τ1.1 15) (τ1.1 16) (nI 0).toNatClampNeg (nI 0).toNatClampNeg (nI 8).toNatClampNeg))
      have hf2 : Fr fSb τ1 (sf (sl τ1 13 7 (lN (kpT S t n (gOf (sR S b)) l))) 16 (va_cpy (τ1.1 15) (τ1.1 16) (nI 0).toNatClampNeg (nI 0).toNatClampNeg (nI 8).toNatClampNeg)) := (Fr.rf.sl _ (Or.inr ⟨rfl, rfl⟩)).sf _ (fun _ => Or.inl ⟨by decide, by decide⟩)
      have hk2 := hk1 (hF1.tr hf2 (fun _ _ h => h) (fun _ _ h => h)) (hX1.scr hW (hf2.mono fSb_xS)) (fun x hx => by rw [gi_sf, if_neg (by omega)]; exact hf1 x hx) (by
        rw [e1]
        refine ⟨by rw [gl_sf, gl_s1]; rfl, fun q hq x hx => ?_⟩
        rw [← Option.some.inj hq, gi_sf, if_pos rfl, nI_clamp (by decide), nI_clamp (by decide), cpy0 _ _ _ _ (by omega)]
        exact hf1 x hx) (some (.long (lN (kpT S t n (gOf (sR S b)) l))))
      rw [e1] at hk2
      refine z_aload_n 48 dX5_seatBest_47 rfl rfl ?_
      refine z_lload 50 dX5_seatBest_48 rfl rfl ?_
      refine pX5_72 53 rfl dX5_seatBest_50 rfl (by first | assumption | rfl) ?_
      refine z_iconst 54 (v := nI 0) dX5_seatBest_53 rfl rfl ?_
      refine zs_istore_n_2_7 55 rfl dX5_seatBest_54 rfl rfl ?_
      refine z_aload_n 56 dX5_seatBest_55 rfl rfl ?_
      refine gX5_15 59 rfl dX5_seatBest_56 rfl (by first | assumption | rfl) ?_
      refine z_iconst 60 (v := nI 0) dX5_seatBest_59 rfl rfl ?_
      refine z_aload_n 61 dX5_seatBest_60 rfl rfl ?_
      refine gX5_18 64 rfl dX5_seatBest_61 rfl (by first | assumption | rfl) ?_
      refine z_iconst 65 (v := nI 0) dX5_seatBest_64 rfl rfl ?_
      refine z_bipush 67 (v := nI 8) dX5_seatBest_65 rfl rfl ?_
      refine z_copy 70 dX5_seatBest_67 rfl lX5_80 kS_n kS_s kS_i rfl rfl (nI_pos (by decide)) (nI_pos (by decide)) (nI_pos (by decide)) (by rw [nI_clamp (by decide), nI_clamp (by decide)]; decide) (by rw [nI_clamp (by decide), nI_clamp (by decide)]; decide) (Nat.le_of_ble_eq_true rfl) ?_
      refine z_lload 72 dX5_seatBest_70 rfl rfl ?_
      refine z_aload_n 73 dX5_seatBest_72 rfl rfl ?_
      refine gX5_72 76 rfl dX5_seatBest_73 rfl (by first | assumption | rfl) ?_
      rw [gl_sf, gl_s1]
      refine z_lcmp 77 dX5_seatBest_76 rfl ?_
      refine z_if_ne 83 80 dX5_seatBest_77 (by decide) rfl (fun h77 => ?_) (fun h77 => ?_)
      · rw [lg_cmp_eq] at h77
        exact absurd rfl h77
      · rw [lg_cmp_eq] at h77
        refine zs_iinc_2_7_1 83 rfl dX5_seatBest_80 rfl rfl ?_
        exact hk2
    have cont : ∀ q, kpT S t n (gOf (sR S b)) l ≤ q.1 → ∀ τ1, RX S τ1 → xAcc τ1 S t n (some q) → q.1 ≤ 2654208 → (xAcc τ1 S t n (stB (kpT S t n (gOf (sR S b))) (some q) l) → ∀ y, At E mX5_seatBest (d + 3) (qI fun x τ => x = nI (aC R) ∧ Fr fSb σ τ ∧ RX S τ ∧ xAcc τ S t n R) 83 [some (zr E 13), some (zr E (24 + 2 * b)), some (.int (nI (aC (stB (kpT S t n (gOf (sR S b))) (some q) l)))), some (.int (nI 1)), some (.int (nI m)), y, none] [] τ1) → At E mX5_seatBest (d + 3) (qI fun x τ => x = nI (aC R) ∧ Fr fSb σ τ ∧ RX S τ ∧ xAcc τ S t n R) 70 [some (zr E 13), some (zr E (24 + 2 * b)), some (.int (nI (aC (some q)))), some (.int (nI 1)), some (.int (nI m)), some (.long (lN (kpT S t n (gOf (sR S b)) l))), none] [] τ1 := by
      intro q hq τ1 hX1 hx1 hq1 k1
      have e0 : stB (kpT S t n (gOf (sR S b))) (some q) l = if kpT S t n (gOf (sR S b)) l = q.1 then some (q.1, q.2.1 + 1, q.2.2) else some q := if_neg (by omega)
      have hk7 : gl τ1 13 7 = lN q.1 := hx1.1
      refine z_lload 72 dX5_seatBest_70 rfl rfl ?_
      refine z_aload_n 73 dX5_seatBest_72 rfl rfl ?_
      refine gX5_72 76 rfl dX5_seatBest_73 rfl (by first | assumption | rfl) ?_
      rw [hk7]
      refine z_lcmp 77 dX5_seatBest_76 rfl ?_
      refine z_if_ne 83 80 dX5_seatBest_77 (by decide) rfl (fun h77 => ?_) (fun h77 => ?_)
      · rw [lg_cmp_eq] at h77
        rw [pk_lEQ (by omega) (by omega)] at h77
        rw [e0, if_neg h77] at k1
        first
          | exact k1 hx1 _
          | (rw [nI_add]; exact k1 ⟨hx1.1, fun p hp => by (rw [← Option.some.inj hp]; exact hx1.2 q rfl)⟩ _)
      · rw [lg_cmp_eq] at h77
        rw [pk_lEQ (by omega) (by omega)] at h77
        rw [e0, if_pos h77] at k1
        refine zs_iinc_2_7_1 83 rfl dX5_seatBest_80 rfl rfl ?_
        first
          | exact k1 hx1 _
          | (rw [nI_add]; exact k1 ⟨hx1.1, fun p hp => by (rw [← Option.some.inj hp]; exact hx1.2 q rfl)⟩ _)
    refine z_iload 20 dX5_seatBest_18 rfl rfl ?_
    refine z_sipush 23 (v := nI 720) dX5_seatBest_20 rfl rfl ?_
    refine z_icmp_ge 102 26 dX5_seatBest_23 (by decide) rfl (fun h23 => ?_) (fun h23 => ?_)
    · (try rw [nI_leI (by omega) (by omega)] at h23)
      omega
    · (try rw [nI_leI (by omega) (by omega)] at h23)
      refine z_iload_n 27 dX5_seatBest_26 rfl rfl ?_
      refine z_if_eq 102 30 dX5_seatBest_27 (by decide) rfl (fun h27 => ?_) (fun h27 => ?_)
      · exact absurd h27 (by decide)
      · refine z_aload_n 31 dX5_seatBest_30 rfl rfl ?_
        refine z_aload_n 32 dX5_seatBest_31 rfl rfl ?_
        refine z_cVJ1 35 (tX5_keptBy hW hR' hT' hD' hA' hb hP) kX5_keptBy dX5_seatBest_32 rfl lX5_76 (by first | assumption | rfl) (Nat.le_of_ble_eq_true rfl) ?_
        rintro _ τ1 ⟨e1, hF1, hX1⟩
        subst e1
        have hF2 : Fr fSb σ τ1 := hF.tr hF1 (fun _ _ h => h) (by intros; omega)
        have hf1 : ∀ x, x < n → gi τ1 15 x = nI (tbL S t n l x) := fun x hx => (hF1.gi (by omega)).trans (hf x hx)
        have hx1 : xAcc τ1 S t n A := ⟨(hF1.gl (by omega)).trans hx.1, fun q hq x hxn => (hF1.gi (by omega)).trans (hx.2 q hq x hxn)⟩
        rw [show fsum (ktG S (tbL S t n l) n (gOf (sR S b))) n = kpT S t n (gOf (sR S b)) l from rfl]
        refine zs_lstore_5_7 37 rfl dX5_seatBest_35 rfl rfl ?_
        refine z_lload 39 dX5_seatBest_37 rfl rfl ?_
        refine z_aload_n 40 dX5_seatBest_39 rfl rfl ?_
        refine gX5_72 43 rfl dX5_seatBest_40 rfl (by first | assumption | rfl) ?_
        rw [hx1.1]
        refine z_lcmp 44 dX5_seatBest_43 rfl ?_
        refine z_if_le 70 47 dX5_seatBest_44 (by decide) rfl (fun h44 => ?_) (fun h44 => ?_)
        · rw [lg_cmp_le] at h44
          cases A with
          | none => exact absurd h44 (lN_neg (by omega))
          | some q =>
            have hq1 := (hbd q rfl).1
            rw [show aK (some q) = lN q.1 from rfl, pk_lLE (by omega) (by omega)] at h44
            have hk1 := k τ1 hF2 hX1 hf1
            exact cont q h44 τ1 hX1 hx1 hq1 hk1
        · rw [lg_cmp_le] at h44
          cases A with
          | none => exact put τ1 hF2 hX1 hf1 rfl
          | some q =>
            have hq1 := (hbd q rfl).1
            rw [show aK (some q) = lN q.1 from rfl, pk_lLE (by omega) (by omega)] at h44
            exact put τ1 hF2 hX1 hf1 (if_pos (by omega))
  have loop : ∀ rest l A m τ, chn 1 n (l :: rest) = true → (∀ x, x ∈ l :: rest → rkL n x) → m + (rest.length + 1) ≤ 720 → bdA A m → Fr fSb σ τ → RX S τ → (∀ x, x < n → gi τ 15 x = nI (tbL S t n l x)) → xAcc τ S t n A → (l :: rest).foldl (stB (kpT S t n (gOf (sR S b)))) A = R → ∀ y, At E mX5_seatBest (d + 3) (qI fun x τ => x = nI (aC R) ∧ Fr fSb σ τ ∧ RX S τ ∧ xAcc τ S t n R) 18 [some (zr E 13), some (zr E (24 + 2 * b)), some (.int (nI (aC A))), some (.int (nI 1)), some (.int (nI m)), y, none] [] τ := by
    intro rest
    induction rest with
    | nil =>
      intro l A m τ hc ho hm hbd hF hR' hf hx he
      have hl := ho l List.mem_cons_self
      have hcc : (chk 1 n l none && chn 1 n []) = true := hc
      rw [Bool.and_eq_true] at hcc
      have hnn : nxt (tbL S t n l) 1 n = none := nxt_none (v := vS S t n) (f := fnL l) (by omega) (rk_mono hT hl) (chk_none hcc.1)
      have he : stB (kpT S t n (gOf (sR S b))) A l = R := he
      refine body l A m τ hl (by omega) hbd hF hR' hf hx (fun τ1 hF1 hX1 hf1 hx1 y => ?_)
      rw [he] at hx1 ⊢
      have hn1 : gi τ1 13 5 = nI n := (hF1.gi (by omega)).trans hD.1
      refine z_aload_n 84 dX5_seatBest_83 rfl rfl ?_
      refine gX5_15 87 rfl dX5_seatBest_84 rfl (by first | assumption | rfl) ?_
      refine z_iconst 88 (v := nI 1) dX5_seatBest_87 rfl rfl ?_
      refine z_aload_n 89 dX5_seatBest_88 rfl rfl ?_
      refine gX5_43 92 rfl dX5_seatBest_89 rfl (by first | assumption | rfl) ?_
      rw [hn1]
      refine z_cSNI3 95 (tX9_nextOrder (a := 15) (cap := 8) rfl (by decide) n8 (by omega) (by decide) hf1 (fun x hx => by have := vS_lt hT (hl.2 x hx).1; exact Nat.lt_of_lt_of_le this (by omega))) kX9_nextOrder dX5_seatBest_92 rfl lX5_86 (Nat.le_of_ble_eq_true rfl) ?_
      rintro x2 τ2 h2
      obtain ⟨_, e2, e3⟩ := h2.resolve_right (fun z => by obtain ⟨g, z1, _⟩ := z; rw [hnn] at z1; exact absurd z1 (fun w => nomatch w))
      subst e2
      replace e3 := e3.symm
      subst e3
      refine zs_istore_n_3_7 96 rfl dX5_seatBest_95 rfl rfl ?_
      refine zs_iinc_4_7_1 99 rfl dX5_seatBest_96 rfl rfl ?_
      rw [nI_add]
      refine z_goto 18 dX5_seatBest_99 rfl ?_
      refine z_iload 20 dX5_seatBest_18 rfl rfl ?_
      refine z_sipush 23 (v := nI 720) dX5_seatBest_20 rfl rfl ?_
      refine z_icmp_ge 102 26 dX5_seatBest_23 (by decide) rfl (fun h23 => ?_) (fun h23 => ?_)
      · (try rw [nI_leI (by omega) (by omega)] at h23)
        refine z_iload_n 103 dX5_seatBest_102 rfl rfl ?_
        refine z_ri dX5_seatBest_103 rfl ?_
        exact ⟨rfl, hF1, hX1, hx1⟩
      · (try rw [nI_leI (by omega) (by omega)] at h23)
        refine z_iload_n 27 dX5_seatBest_26 rfl rfl ?_
        refine z_if_eq 102 30 dX5_seatBest_27 (by decide) rfl (fun h27 => ?_) (fun h27 => ?_)
        · refine z_iload_n 103 dX5_seatBest_102 rfl rfl ?_
          refine z_ri dX5_seatBest_103 rfl ?_
          exact ⟨rfl, hF1, hX1, hx1⟩
        · exact absurd rfl h27
    | cons l' rest ih =>
      intro l A m τ hc ho hm hbd hF hR' hf hx he
      have hl := ho l List.mem_cons_self
      have hcc : (chk 1 n l (some l') && chn 1 n (l' :: rest)) = true := hc
      rw [Bool.and_eq_true] at hcc
      obtain ⟨g, hg1, hg2⟩ := chk_some hcc.1
      have hnn : nxt (tbL S t n l) 1 n = some (fun x => vS S t n (g x)) := nxt_some (v := vS S t n) (f := fnL l) (by omega) (rk_mono hT hl) hg1
      have hkl := kpT_le hW hT hl.2 hpb
      have hml : m + 1 + (rest.length + 1) ≤ 720 := by
        have : (l' :: rest).length = rest.length + 1 := rfl
        omega
      refine body l A m τ hl (by omega) hbd hF hR' hf hx (fun τ1 hF1 hX1 hf1 hx1 y => ?_)
      have hn1 : gi τ1 13 5 = nI n := (hF1.gi (by omega)).trans hD.1
      refine z_aload_n 84 dX5_seatBest_83 rfl rfl ?_
      refine gX5_15 87 rfl dX5_seatBest_84 rfl (by first | assumption | rfl) ?_
      refine z_iconst 88 (v := nI 1) dX5_seatBest_87 rfl rfl ?_
      refine z_aload_n 89 dX5_seatBest_88 rfl rfl ?_
      refine gX5_43 92 rfl dX5_seatBest_89 rfl (by first | assumption | rfl) ?_
      rw [hn1]
      refine z_cSNI3 95 (tX9_nextOrder (a := 15) (cap := 8) rfl (by decide) n8 (by omega) (by decide) hf1 (fun x hx => by have := vS_lt hT (hl.2 x hx).1; exact Nat.lt_of_lt_of_le this (by omega))) kX9_nextOrder dX5_seatBest_92 rfl lX5_86 (Nat.le_of_ble_eq_true rfl) ?_
      rintro x2 τ2 h2
      obtain ⟨g', z1, e2, hF2, hg3⟩ := h2.resolve_left (fun z => by rw [hnn] at z; exact absurd z.1 (fun w => nomatch w))
      rw [hnn] at z1
      have z1 := Option.some.inj z1
      subst e2
      have hX2 : RX S τ2 := hX1.scr hW (hF2.mono (by unfold xS; intros; omega))
      refine zs_istore_n_3_7 96 rfl dX5_seatBest_95 rfl rfl ?_
      refine zs_iinc_4_7_1 99 rfl dX5_seatBest_96 rfl rfl ?_
      rw [nI_add]
      refine z_goto 18 dX5_seatBest_99 rfl ?_
      exact ih l' _ (m + 1) τ2 hcc.2 (fun x hx => ho x (List.mem_cons_of_mem _ hx)) hml (stB_bd hbd hkl) (hF1.tr hF2 (fun _ _ h => h) (by intros; omega)) hX2 (fun x hx => by rw [hg3 x hx, ← z1]; show nI (vS S t n (g x)) = _; rw [hg2 x hx]; rfl) ⟨(hF2.gl (by omega)).trans hx1.1, fun q hq x hxn => (hF2.gi (by omega)).trans (hx1.2 q hq x hxn)⟩ he _
  have hf0 : ∀ τ, Fr fSb σ τ → gl τ 13 7 = -1 → xAcc τ S t n none := fun τ _ h => ⟨h, fun q hq => absurd hq (fun z => nomatch z)⟩
  refine z_aload_n 1 dX5_seatBest_0 rfl rfl ?_
  refine z_cVV0 4 (tX5_sortOthers hW hT hD) kX5_sortOthers dX5_seatBest_1 rfl lX5_67 (by first | assumption | rfl) (Nat.le_of_ble_eq_true rfl) ?_
  rintro τ1 ⟨hF1, hf1⟩
  refine z_aload_n 5 dX5_seatBest_4 rfl rfl ?_
  refine z_ldc2 8 dX5_seatBest_5 rfl qX5_70 ?_
  refine pX5_72 11 rfl dX5_seatBest_8 rfl (by first | assumption | rfl) ?_
  refine z_iconst 12 (v := nI 0) dX5_seatBest_11 rfl rfl ?_
  refine zs_istore_n_2_7 13 rfl dX5_seatBest_12 rfl rfl ?_
  refine z_iconst 14 (v := nI 1) dX5_seatBest_13 rfl rfl ?_
  refine zs_istore_n_3_7 15 rfl dX5_seatBest_14 rfl rfl ?_
  refine z_iconst 16 (v := nI 0) dX5_seatBest_15 rfl rfl ?_
  refine zs_istore_4_7 18 rfl dX5_seatBest_16 rfl rfl ?_
  have hf2 : Fr fSb τ1 (sl τ1 13 7 (-1)) := Fr.rf.sl _ (Or.inr ⟨rfl, rfl⟩)
  have hF2 : Fr fSb σ (sl τ1 13 7 (-1)) := hF1.tr hf2 (by intros; omega) (fun _ _ h => h)
  rw [g4] at g1 g2 g3 hR
  exact loop r0 (List.range n) none 0 _ g1 (fun x hx => ⟨z_n hT.1 h6 x (by rw [g4]; exact hx), okl_of (g2 x hx)⟩) (by have : (List.range n :: r0).length = r0.length + 1 := rfl; omega) (fun q hq => absurd hq (fun z => nomatch z)) hF2 (hX.scr hW (hF2.mono fSb_xS)) (fun x hx => by
    rw [gi_sl, hf1 x hx]
    unfold tbL fnL
    rw [List.getD_eq_getElem?_getD, List.getElem?_range hx]
    rfl) (hf0 _ hF2 (gl_s1 _ _ _ _)) hR none
def stR2 (S : sS) (o b : sRow) : sAcc := (en (sSz o - 1) 1 (sSz o - 1) [0]).foldl (stB (kpT S (gOf o) (sSz o) (gOf b))) none
def stO (S : sS) (o : sRow) (to : Nat) (A : sAcc) : Int32 × sS := match A with
  | none => (-1, S)
  | some q => sTell (setR S to (some (sSz o, fun x => nI (tbL S (gOf o) (sSz o) q.2.2 x)))) q.1 (whR o) (nI q.2.1)
abbrev stOK3 (r b c : Int32) : Prop := inN r 6 ∧ inN b 6 ∧ inN c 6
def spSeats (S : sS) (r b c : Int32) : Int32 × sS := if ¬ stOK3 r b c then (-1, S) else if ¬ sPd S (sR S (zx r)) (sR S (zx b)) = 0 then sFd S (sPd S (sR S (zx r)) (sR S (zx b))) else if 6 < sSz (sR S (zx r)) then (-6, S) else stO S (sR S (zx r)) (zx c) (stR2 S (sR S (zx r)) (sR S (zx b)))
theorem stB_some (K : List Nat → Nat) : ∀ (L : List (List Nat)) (A : sAcc), A ≠ none → L.foldl (stB K) A ≠ none := by
  intro L
  induction L with
  | nil => exact fun A h => h
  | cons l L ih =>
    intro A h
    refine ih _ ?_
    cases A with
    | none => exact absurd rfl h
    | some q =>
      show (if q.1 < K l then some (K l, 1, l) else if K l = q.1 then some (q.1, q.2.1 + 1, q.2.2) else some q) ≠ none
      split
      · exact fun z => nomatch z
      · split <;> exact fun z => nomatch z
theorem stB_bdL {K : List Nat → Nat} : ∀ (L : List (List Nat)) (A : sAcc) (m : Nat), bdA A m → (∀ l, l ∈ L → K l ≤ 2654208) → bdA (L.foldl (stB K) A) (m + L.length) := by
  intro L
  induction L with
  | nil => exact fun A m h _ => h
  | cons l L ih =>
    intro A m h hK
    have h1 := ih (stB K A l) (m + 1) (stB_bd h (hK l List.mem_cons_self)) (fun x hx => hK x (List.mem_cons_of_mem _ hx))
    rw [show m + 1 + L.length = m + (l :: L).length by rw [List.length_cons]; omega] at h1
    exact h1
