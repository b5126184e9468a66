/-! soon of the landed code -/
set_option maxRecDepth 20000 in
theorem tX8_keepOrder {E : zE} {d : Nat} {σ : zM} {s n : Nat} {b : Bool} {l : List Nat} (h6 : n ≤ 6) (hC : WtC σ s n b) (ho : ∀ x, x < n → gi σ 21 x = nI (fnL l x)) (hl : ∀ x, x < n → fnL l x < n) (hll : l.length = n) : Ret E mX8_keepOrder d [zr E 19] σ (qV fun τ => Fr (fun x _ => x = 22) σ τ ∧ ∀ x, x < n → gi τ 22 x = nI (fnL (l.map (blG s)) x)) := by
  refine Ret.of [some (zr E 19), none] (by decide +kernel) (Nat.le_of_ble_eq_true rfl) rfl ?_
  have loop : ∀ i, i ≤ n → ∀ τ, Fr (fun x _ => x = 22) σ τ → (∀ x, x < i → gi τ 22 x = nI (fnL (l.map (blG s)) x)) → At E mX8_keepOrder d (qV fun τ => Fr (fun x _ => x = 22) σ τ ∧ ∀ x, x < n → gi τ 22 x = nI (fnL (l.map (blG s)) x)) 2 [some (zr E 19), some (.int (nI i))] [] τ := by
    refine z_up (fun i hi ih τ hF hv => ?_)
    have hn' : gi τ 19 4 = nI n := (hF.gi (by omega)).trans hC.1
    by_cases hie : i = n
    · rw [hie] at hv ⊢
      refine z_iload_n 3 dX8_keepOrder_2 rfl rfl ?_
      refine z_aload_n 4 dX8_keepOrder_3 rfl rfl ?_
      refine gX8_29 7 rfl dX8_keepOrder_4 rfl (by first | assumption | rfl) ?_
      rw [hn']
      refine z_icmp_ge 33 10 dX8_keepOrder_7 (by decide) rfl (fun h7 => ?_) (fun h7 => ?_)
      · (try rw [nI_leI (by omega) (by omega)] at h7)
        refine z_rv dX8_keepOrder_33 rfl ?_
        exact ⟨hF, hv⟩
      · (try rw [nI_leI (by omega) (by omega)] at h7)
        omega
    · have hil : i < n := by omega
      have h1 : gi τ 21 i = nI (fnL l i) := (hF.gi (by omega)).trans (ho i hil)
      have hli := hl i hil
      have h2 : gi τ 20 (fnL l i) = nI (fnL (l.map (blG s)) i) := by rw [hF.gi (by omega), hC.2.2 _ hli, fnL_map (by omega)]
      refine z_iload_n 3 dX8_keepOrder_2 rfl rfl ?_
      refine z_aload_n 4 dX8_keepOrder_3 rfl rfl ?_
      refine gX8_29 7 rfl dX8_keepOrder_4 rfl (by first | assumption | rfl) ?_
      rw [hn']
      refine z_icmp_ge 33 10 dX8_keepOrder_7 (by decide) rfl (fun h7 => ?_) (fun h7 => ?_)
      · (try rw [nI_leI (by omega) (by omega)] at h7)
        omega
      · (try rw [nI_leI (by omega) (by omega)] at h7)
        refine z_aload_n 11 dX8_keepOrder_10 rfl rfl ?_
        refine gX8_18 14 rfl dX8_keepOrder_11 rfl (by first | assumption | rfl) ?_
        refine z_iload_n 15 dX8_keepOrder_14 rfl rfl ?_
        refine z_aload_n 16 dX8_keepOrder_15 rfl rfl ?_
        refine gX8_9 19 rfl dX8_keepOrder_16 rfl (by first | assumption | rfl) ?_
        refine z_aload_n 20 dX8_keepOrder_19 rfl rfl ?_
        refine gX8_15 23 rfl dX8_keepOrder_20 rfl (by first | assumption | rfl) ?_
        refine z_iload_n 24 dX8_keepOrder_23 rfl rfl ?_
        refine z_ialdn 25 dX8_keepOrder_24 rfl (by first | assumption | rfl) (by omega) ?_
        rw [h1]
        refine z_ialdn 26 dX8_keepOrder_25 rfl (by first | assumption | rfl) (by omega) ?_
        rw [h2]
        refine z_iastn 27 dX8_keepOrder_26 rfl (by first | assumption | rfl) (by omega) ?_
        refine zs_iinc_1_2_1 30 rfl dX8_keepOrder_27 rfl rfl ?_
        rw [nI_add]
        refine z_goto 2 dX8_keepOrder_30 rfl ?_
        exact ih (i + 1) (by omega) (by omega) _ (hF.si _ rfl) (fun x hx => by
          rw [gi_si]
          by_cases hki : x = i
          · rw [if_pos ⟨rfl, hki⟩, hki]
          · rw [if_neg (fun z => hki z.2)]; exact hv x (by omega))
  refine z_iconst 1 (v := nI 0) dX8_keepOrder_0 rfl rfl ?_
  refine zs_istore_n_1_2 2 rfl dX8_keepOrder_1 rfl rfl ?_
  exact loop 0 (Nat.zero_le _) σ Fr.rf (fun x hx => absurd hx (Nat.not_lt_zero x))
def soR (n : Nat) (R : wAcc) : Int32 := if n < R.1 then -9 else nI R.1
theorem stP_le {S : sS} {p w n : Nat} {A : wAcc} (h : A.1 ≤ n + 1) (l : List Nat) : (stP S p w n A l).1 ≤ n + 1 := by
  unfold stP
  split
  · show kfL S p w n l ≤ n + 1
    omega
  · exact h
set_option maxRecDepth 20000 in
theorem tX8_soonest {E : zE} {d : Nat} {σ : zM} {S : sS} {p w s n : Nat} {b : Bool} (hs : s < 1024) (hn : pop s = n) (hn1 : 1 ≤ n) (h6 : n ≤ 6) (hC : WtC σ s n b) (hb : b = decide ((sPl S p).1 = 3)) (ho : ∀ x, x < n → gi σ 21 x = nI x) (hk : WtK σ S p w s n (2 ^ n)) : Ret E mX8_soonest (d + 2) [zr E 19] σ (qI fun x τ => x = soR n (soA S p w s n) ∧ Fr (fun x _ => x = 21 ∨ x = 22) σ τ ∧ (¬ n < (soA S p w s n).1 → ∀ x, x < n → gi τ 22 x = nI (fnL (soA S p w s n).2 x))) := by
  obtain ⟨g1, g2, g3, r0, g4⟩ := sOK_of (w_n hn1 h6)
  generalize hR : soA S p w s n = R
  refine Ret.of [some (zr E 19), none, none, none, none] (by decide +kernel) (Nat.le_of_ble_eq_true rfl) rfl ?_
  have fin : ∀ A τ y2 y3 y4, A = R → A.1 ≤ n + 1 → Fr (fun x _ => x = 21 ∨ x = 22) σ τ → (¬ n < A.1 → ∀ x, x < n → gi τ 22 x = nI (fnL A.2 x)) → At E mX8_soonest (d + 2) (qI fun x τ => x = soR n R ∧ Fr (fun x _ => x = 21 ∨ x = 22) σ τ ∧ (¬ n < R.1 → ∀ x, x < n → gi τ 22 x = nI (fnL R.2 x))) 60 [some (zr E 19), some (.int (nI A.1)), y2, y3, y4] [] τ := by
    intro A τ y2 y3 y4 e hA hF hv
    rw [e] at hA hv ⊢
    have hn' : gi τ 19 4 = nI n := (hF.gi (by omega)).trans hC.1
    refine z_iload_n 61 dX8_soonest_60 rfl rfl ?_
    refine z_aload_n 62 dX8_soonest_61 rfl rfl ?_
    refine gX8_29 65 rfl dX8_soonest_62 rfl (by first | assumption | rfl) ?_
    rw [hn']
    refine z_icmp_le 73 68 dX8_soonest_65 (by decide) rfl (fun h65 => ?_) (fun h65 => ?_)
    · (try rw [nI_leI (by omega) (by omega)] at h65)
      refine z_iload_n 74 dX8_soonest_73 rfl rfl ?_
      refine z_ri dX8_soonest_74 rfl ?_
      first
        | exact ⟨by (unfold soR; rw [if_neg (by omega)]), hF, hv⟩
        | exact ⟨by (unfold soR; rw [if_pos (by omega)]), hF, hv⟩
    · (try rw [nI_leI (by omega) (by omega)] at h65)
      refine z_bipush 70 (v := (-9)) dX8_soonest_68 rfl rfl ?_
      refine z_goto 74 dX8_soonest_70 rfl ?_
      refine z_ri dX8_soonest_74 rfl ?_
      first
        | exact ⟨by (unfold soR; rw [if_neg (by omega)]), hF, hv⟩
        | exact ⟨by (unfold soR; rw [if_pos (by omega)]), hF, hv⟩
  have body : ∀ l A m τ, (∀ x, x < n → fnL l x < n ∧ ∀ y, y < x → fnL l x ≠ fnL l y) → l.length = n → m < 720 → A.1 ≤ n + 1 → Fr (fun x _ => x = 21 ∨ x = 22) σ τ → (∀ x, x < n → gi τ 21 x = nI (fnL l x)) → (¬ n < A.1 → ∀ x, x < n → gi τ 22 x = nI (fnL A.2 x)) → (∀ τ1, Fr (fun x _ => x = 21 ∨ x = 22) σ τ1 → (∀ x, x < n → gi τ1 21 x = nI (fnL l x)) → (¬ n < (stP S p w n A (l.map (blG s))).1 → ∀ x, x < n → gi τ1 22 x = nI (fnL (stP S p w n A (l.map (blG s))).2 x)) → ∀ y, At E mX8_soonest (d + 2) (qI fun x τ => x = soR n R ∧ Fr (fun x _ => x = 21 ∨ x = 22) σ τ ∧ (¬ n < R.1 → ∀ x, x < n → gi τ 22 x = nI (fnL R.2 x))) 41 [some (zr E 19), some (.int (nI (stP S p w n A (l.map (blG s))).1)), some (.int (nI 1)), some (.int (nI m)), y] [] τ1) → ∀ y, At E mX8_soonest (d + 2) (qI fun x τ => x = soR n R ∧ Fr (fun x _ => x = 21 ∨ x = 22) σ τ ∧ (¬ n < R.1 → ∀ x, x < n → gi τ 22 x = nI (fnL R.2 x))) 11 [some (zr E 19), some (.int (nI A.1)), some (.int (nI 1)), some (.int (nI m)), y] [] τ := by
    intro l A m τ hl hll hm hA hF hf hv k y
    have hC' := hC.fr hF (by intros; omega) (by intros; omega)
    have hk' := hk.fr hF (by intros; omega)
    have hkl : kfL S p w n (l.map (blG s)) ≤ n + 1 := by
      unfold kfL
      exact kfD_le _ n
    refine z_iload_n 12 dX8_soonest_11 rfl rfl ?_
    refine z_sipush 15 (v := nI 720) dX8_soonest_12 rfl rfl ?_
    refine z_icmp_ge 60 18 dX8_soonest_15 (by decide) rfl (fun h15 => ?_) (fun h15 => ?_)
    · (try rw [nI_leI (by omega) (by omega)] at h15)
      omega
    · (try rw [nI_leI (by omega) (by omega)] at h15)
      refine z_iload_n 19 dX8_soonest_18 rfl rfl ?_
      refine z_if_eq 60 22 dX8_soonest_19 (by decide) rfl (fun h19 => ?_) (fun h19 => ?_)
      · exact absurd h19 (by decide)
      · refine z_aload_n 23 dX8_soonest_22 rfl rfl ?_
        refine z_cVI0 26 (tX8_knownFrom hs hn hn1 h6 hC' hb hf hl hll hk') kX8_knownFrom dX8_soonest_23 rfl lX8_39 (by first | assumption | rfl) (Nat.le_of_ble_eq_true rfl) ?_
        rintro _ _ ⟨e1, e2⟩
        replace e1 := e1.symm
        replace e2 := e2.symm
        subst e1
        subst e2
        refine zs_istore_4_5 28 rfl dX8_soonest_26 rfl rfl ?_
        refine z_iload 30 dX8_soonest_28 rfl rfl ?_
        refine z_iload_n 31 dX8_soonest_30 rfl rfl ?_
        refine z_icmp_ge 41 34 dX8_soonest_31 (by decide) rfl (fun h31 => ?_) (fun h31 => ?_)
        · (try rw [nI_leI (by omega) (by omega)] at h31)
          have er : stP S p w n A (l.map (blG s)) = A := if_neg (by omega)
          rw [er] at k
          first
            | exact k τ hF hf hv _
            | exact k τ1 (hF.tr hF1 (fun _ _ h => h) (by intros; omega)) (fun x hx => (hF1.gi (by omega)).trans (hf x hx)) (fun _ => hv1) _
        · (try rw [nI_leI (by omega) (by omega)] at h31)
          have er : stP S p w n A (l.map (blG s)) = (kfL S p w n (l.map (blG s)), l.map (blG s)) := if_pos (by omega)
          rw [er] at k
          refine z_iload 36 dX8_soonest_34 rfl rfl ?_
          refine zs_istore_n_1_5 37 rfl dX8_soonest_36 rfl rfl ?_
          refine z_aload_n 38 dX8_soonest_37 rfl rfl ?_
          refine z_cVV0 41 (tX8_keepOrder h6 hC' hf (fun x hx => (hl x hx).1) hll) kX8_keepOrder dX8_soonest_38 rfl lX8_43 (by first | assumption | rfl) (Nat.le_of_ble_eq_true rfl) ?_
          rintro τ1 ⟨hF1, hv1⟩
          first
            | exact k τ hF hf hv _
            | exact k τ1 (hF.tr hF1 (fun _ _ h => h) (by intros; omega)) (fun x hx => (hF1.gi (by omega)).trans (hf x hx)) (fun _ => hv1) _
  have loop : ∀ rest l A m τ, chn 0 n (l :: rest) = true → (∀ x, x ∈ l :: rest → okl n x = true ∧ x.length = n) → m + (rest.length + 1) ≤ 720 → A.1 ≤ n + 1 → Fr (fun x _ => x = 21 ∨ x = 22) σ τ → (∀ x, x < n → gi τ 21 x = nI (fnL l x)) → (¬ n < A.1 → ∀ x, x < n → gi τ 22 x = nI (fnL A.2 x)) → ((l :: rest).map (fun l => l.map (blG s))).foldl (stP S p w n) A = R → ∀ y, At E mX8_soonest (d + 2) (qI fun x τ => x = soR n R ∧ Fr (fun x _ => x = 21 ∨ x = 22) σ τ ∧ (¬ n < R.1 → ∀ x, x < n → gi τ 22 x = nI (fnL R.2 x))) 11 [some (zr E 19), some (.int (nI A.1)), some (.int (nI 1)), some (.int (nI m)), y] [] τ := by
    intro rest
    induction rest with
    | nil =>
      intro l A m τ hc hok hm hA hF hf hv he
      have hl := okl_of (hok l List.mem_cons_self).1
      have hcc : (chk 0 n l none && chn 0 n []) = true := hc
      rw [Bool.and_eq_true] at hcc
      have hnn : nxt (fnL l) 0 n = none := chk_none hcc.1
      have he : stP S p w n A (l.map (blG s)) = R := he
      refine body l A m τ hl (hok l List.mem_cons_self).2 (by omega) hA hF hf hv (fun τ1 hF1 hf1 hv1 y => ?_)
      have hn' : gi τ1 19 4 = nI n := (hF1.gi (by omega)).trans hC.1
      refine z_aload_n 42 dX8_soonest_41 rfl rfl ?_
      refine gX8_15 45 rfl dX8_soonest_42 rfl (by first | assumption | rfl) ?_
      refine z_iconst 46 (v := nI 0) dX8_soonest_45 rfl rfl ?_
      refine z_aload_n 47 dX8_soonest_46 rfl rfl ?_
      refine gX8_29 50 rfl dX8_soonest_47 rfl (by first | assumption | rfl) ?_
      rw [hn']
      refine z_cSNI3 53 (tX9_nextOrder (a := 21) (cap := 6) rfl (by decide) h6 hn1 (by decide) hf1 (fun x hx => Nat.lt_of_lt_of_le (hl x hx).1 (by omega))) kX9_nextOrder dX8_soonest_50 rfl lX8_46 (Nat.le_of_ble_eq_true rfl) ?_
      rintro x2 τ2 h2
      obtain ⟨_, e2, e3⟩ := h2.resolve_right (fun z => by obtain ⟨g, z1, _⟩ := z; rw [hnn] at z1; exact absurd z1 (fun w => nomatch w))
      subst e2
      replace e3 := e3.symm
      subst e3
      refine zs_istore_n_2_5 54 rfl dX8_soonest_53 rfl rfl ?_
      refine zs_iinc_3_5_1 57 rfl dX8_soonest_54 rfl rfl ?_
      rw [nI_add]
      refine z_goto 11 dX8_soonest_57 rfl ?_
      refine z_iload_n 12 dX8_soonest_11 rfl rfl ?_
      refine z_sipush 15 (v := nI 720) dX8_soonest_12 rfl rfl ?_
      refine z_icmp_ge 60 18 dX8_soonest_15 (by decide) rfl (fun h15 => ?_) (fun h15 => ?_)
      · (try rw [nI_leI (by omega) (by omega)] at h15)
        exact fin _ τ1 _ _ _ he (stP_le hA _) hF1 hv1
      · (try rw [nI_leI (by omega) (by omega)] at h15)
        refine z_iload_n 19 dX8_soonest_18 rfl rfl ?_
        refine z_if_eq 60 22 dX8_soonest_19 (by decide) rfl (fun h19 => ?_) (fun h19 => ?_)
        · exact fin _ τ1 _ _ _ he (stP_le hA _) hF1 hv1
        · exact absurd rfl h19
    | cons l' rest ih =>
      intro l A m τ hc hok hm hA hF hf hv he
      have hl := okl_of (hok l List.mem_cons_self).1
      have hcc : (chk 0 n l (some l') && chn 0 n (l' :: rest)) = true := hc
      rw [Bool.and_eq_true] at hcc
      obtain ⟨g, hg1, hg2⟩ := chk_some hcc.1
      have hml : m + 1 + (rest.length + 1) ≤ 720 := by
        have : (l' :: rest).length = rest.length + 1 := rfl
        omega
      refine body l A m τ hl (hok l List.mem_cons_self).2 (by omega) hA hF hf hv (fun τ1 hF1 hf1 hv1 y => ?_)
      have hn' : gi τ1 19 4 = nI n := (hF1.gi (by omega)).trans hC.1
      refine z_aload_n 42 dX8_soonest_41 rfl rfl ?_
      refine gX8_15 45 rfl dX8_soonest_42 rfl (by first | assumption | rfl) ?_
      refine z_iconst 46 (v := nI 0) dX8_soonest_45 rfl rfl ?_
      refine z_aload_n 47 dX8_soonest_46 rfl rfl ?_
      refine gX8_29 50 rfl dX8_soonest_47 rfl (by first | assumption | rfl) ?_
      rw [hn']
      refine z_cSNI3 53 (tX9_nextOrder (a := 21) (cap := 6) rfl (by decide) h6 hn1 (by decide) hf1 (fun x hx => Nat.lt_of_lt_of_le (hl x hx).1 (by omega))) kX9_nextOrder dX8_soonest_50 rfl lX8_46 (Nat.le_of_ble_eq_true rfl) ?_
      rintro x2 τ2 h2
      obtain ⟨g', z1, e2, hF2, hg3⟩ := h2.resolve_left (fun z => by rw [hg1] at z; exact absurd z.1 (fun w => nomatch w))
      rw [hg1] at z1
      have z1 := Option.some.inj z1
      subst e2
      refine zs_istore_n_2_5 54 rfl dX8_soonest_53 rfl rfl ?_
      refine zs_iinc_3_5_1 57 rfl dX8_soonest_54 rfl rfl ?_
      rw [nI_add]
      refine z_goto 11 dX8_soonest_57 rfl ?_
      exact ih l' _ (m + 1) τ2 hcc.2 (fun x hx => hok x (List.mem_cons_of_mem _ hx)) hml (stP_le hA _) (hF1.tr hF2 (fun _ _ h => h) (by intros; omega)) (fun x hx => by rw [hg3 x hx, ← z1, hg2 x hx]) (fun hz x hx => (hF2.gi (by omega)).trans (hv1 hz x hx)) he _
  refine z_aload_n 1 dX8_soonest_0 rfl rfl ?_
  refine gX8_29 4 rfl dX8_soonest_1 rfl (by first | assumption | rfl) ?_
  rw [hC.1]
  refine z_iconst 5 (v := nI 1) dX8_soonest_4 rfl rfl ?_
  refine z_iadd 6 dX8_soonest_5 rfl ?_
  rw [nI_add]
  refine zs_istore_n_1_5 7 rfl dX8_soonest_6 rfl rfl ?_
  refine z_iconst 8 (v := nI 1) dX8_soonest_7 rfl rfl ?_
  refine zs_istore_n_2_5 9 rfl dX8_soonest_8 rfl rfl ?_
  refine z_iconst 10 (v := nI 0) dX8_soonest_9 rfl rfl ?_
  refine zs_istore_n_3_5 11 rfl dX8_soonest_10 rfl rfl ?_
  have hlen := en_len (m := n) (b := 0) n []
  unfold soA soL at hR
  rw [g4] at g1 g2 g3 hR hlen
  exact loop r0 (List.range n) (n + 1, []) 0 σ g1 (fun x hx => ⟨g2 x hx, by have := hlen x hx; rw [this]; show 0 + n = n; omega⟩) (by have : (List.range n :: r0).length = r0.length + 1 := rfl; omega) (Nat.le_refl _) Fr.rf (fun x hx => by
    rw [ho x hx]
    unfold fnL
    rw [List.getD_eq_getElem?_getD, List.getElem?_range hx]
    rfl) (fun z => absurd (Nat.lt_succ_self n) z) hR none
set_option maxRecDepth 20000 in
theorem tX9_soon {E : zE} {d : Nat} {σ : zM} {S : sS} {p w r c : Int32} (hW : WF S) (hX : RX S σ) : Ret E mX9_soon (d + 4) [zr E 0, .int p, .int w, .int r, .int c] σ (qX σ (spSoon S p w r c)) := by
  have h8 := hW.2.1.1
  have hb8 := bw_le hW (show 0 < 2 by omega)
  by_cases hA : ¬ soOK S p w r c
  · refine Ret.of [some (zr E 0), some (.int p), some (.int w), some (.int r), some (.int c), none, none] (by decide +kernel) (Nat.le_of_ble_eq_true rfl) rfl ?_
    refine z_aload_n 1 dX9_soon_0 rfl rfl ?_
    refine z_iload_n 2 dX9_soon_1 rfl rfl ?_
    refine z_cVI1 5 (tX9_isPl (by assumption) (by assumption)) kX9_isPlayer dX9_soon_2 rfl lX9_176 (by first | assumption | rfl) (Nat.le_of_ble_eq_true rfl) ?_
    rintro _ _ ⟨e1, e2⟩
    replace e1 := e1.symm
    replace e2 := e2.symm
    subst e1
    subst e2
    refine z_ifb_eq 31 8 dX9_soon_5 (by decide) rfl (fun h5 => ?_) (fun h5 => ?_)
    · refine z_iconst 32 (v := (-1)) dX9_soon_31 rfl rfl ?_
      refine z_ri dX9_soon_32 rfl ?_
      exact qx0 (if_pos hA) hX Fr.rf
    · refine z_aload_n 9 dX9_soon_8 rfl rfl ?_
      refine z_iload_n 10 dX9_soon_9 rfl rfl ?_
      refine z_cVI1 13 (tX9_isWord (by assumption) (by assumption)) kX9_isWord dX9_soon_10 rfl lX9_165 (by first | assumption | rfl) (Nat.le_of_ble_eq_true rfl) ?_
      rintro _ _ ⟨e1, e2⟩
      replace e1 := e1.symm
      replace e2 := e2.symm
      subst e1
      subst e2
      refine z_ifb_eq 31 16 dX9_soon_13 (by decide) rfl (fun h13 => ?_) (fun h13 => ?_)
      · refine z_iconst 32 (v := (-1)) dX9_soon_31 rfl rfl ?_
        refine z_ri dX9_soon_32 rfl ?_
        exact qx0 (if_pos hA) hX Fr.rf
      · refine z_iload_n 17 dX9_soon_16 rfl rfl ?_
        refine z_cSI1 20 (tX9_isRow) kX9_isRow dX9_soon_17 rfl lX9_83 (Nat.le_of_ble_eq_true rfl) ?_
        rintro _ _ ⟨e1, e2⟩
        replace e1 := e1.symm
        replace e2 := e2.symm
        subst e1
        subst e2
        refine z_ifb_eq 31 23 dX9_soon_20 (by decide) rfl (fun h20 => ?_) (fun h20 => ?_)
        · refine z_iconst 32 (v := (-1)) dX9_soon_31 rfl rfl ?_
          refine z_ri dX9_soon_32 rfl ?_
          exact qx0 (if_pos hA) hX Fr.rf
        · refine z_iload 25 dX9_soon_23 rfl rfl ?_
          refine z_cSI1 28 (tX9_isRow) kX9_isRow dX9_soon_25 rfl lX9_83 (Nat.le_of_ble_eq_true rfl) ?_
          rintro _ _ ⟨e1, e2⟩
          replace e1 := e1.symm
          replace e2 := e2.symm
          subst e1
          subst e2
          refine z_ifb_ne 33 31 dX9_soon_28 (by decide) rfl (fun h28 => ?_) (fun h28 => ?_)
          · exact absurd ⟨h5, h13, h20, h28⟩ hA
          · refine z_iconst 32 (v := (-1)) dX9_soon_31 rfl rfl ?_
            refine z_ri dX9_soon_32 rfl ?_
            exact qx0 (if_pos hA) hX Fr.rf
  have e0 : spSoon S p w r c = _ := if_neg hA
  have hA := Classical.not_not.mp hA
  have hA' := hA
  obtain ⟨a1, a2, a3, a4⟩ := hA
  obtain ⟨p, hp, rfl⟩ := inN_of a1
  obtain ⟨w, hw, rfl⟩ := inN_of a2
  obtain ⟨r, hr, rfl⟩ := inN_of a3
  obtain ⟨c, hc, rfl⟩ := inN_of a4
  obtain ⟨b1, b2, b3, b4⟩ := hA'
  rw [zx_nI (by omega), zx_nI (by omega), zx_nI (by omega), zx_nI (by omega)] at e0
  have hk := kd_r hr
  have hk1 := kd_r1 hr
  have hkc := kd_r hc
  have hkc1 := kd_r1 hc
  have hcp := kd_p (show p < 8 by omega)
  have hS : Sh σ (24 + 2 * r) 40 (sR S r) := hX.1 r hr
  have hpl := sDf_lt (sR S r)
  obtain ⟨o1, o2, o3, o4, o5⟩ := plOK hW hp
  refine Ret.of [some (zr E 0), some (.int (nI p)), some (.int (nI w)), some (.int (nI r)), some (.int (nI c)), none, none] (by decide +kernel) (Nat.le_of_ble_eq_true rfl) rfl ?_
  by_cases hD : sDf (sR S r) = 0
  · rw [if_neg (fun z => z hD)] at e0
    obtain ⟨q, hq, hpt, hqg⟩ := sDf0 hD
    have hsz : sSz (sR S r) = q.1 := by rw [hq]; rfl
    rw [hsz] at e0
    have hS' : Sh σ (24 + 2 * r) 40 (some q) := by rw [← hq]; exact hS
    have hrs : pset (gOf (sR S r)) q.1 = rSet (sR S r) := by unfold rSet; rw [hsz]
    have hsl : rSet (sR S r) < 1024 := by rw [← hrs]; exact pset_lt _ 10 _ (fun i hi => (hpt.2.2 i hi).1)
    have hpn : pop (rSet (sR S r)) = q.1 := by rw [← hrs]; exact pop_psetn hpt.2.2
    have n1 := hpt.1
    have n6 := hpt.2.1
    have h64 := two_n n6
    have hpw : ∀ τ, Fr (fun x y => 8 ≤ x ∧ x ≤ 12 ∨ 19 ≤ x ∧ x ≤ 23) σ τ → RX S τ := fun τ hF => hX.scr hW (hF.mono (by unfold xS; intros; omega))
    have fin : ∀ τ, Fr (fun x y => 8 ≤ x ∧ x ≤ 12 ∨ 19 ≤ x ∧ x ≤ 23) σ τ → WtC τ (rSet (sR S r)) q.1 (decide ((sPl S p).1 = 3)) → (∀ x, x < q.1 → gi τ 21 x = nI x) → WtK τ S p w (rSet (sR S r)) q.1 (2 ^ q.1) → At E mX9_soon (d + 4) (qX σ (spSoon S (nI p) (nI w) (nI r) (nI c))) 172 [some (zr E 0), some (.int (nI p)), some (.int (nI w)), some (.int (nI r)), some (.int (nI c)), some (.int (nI 0)), some (.int (nI (2 ^ q.1)))] [] τ := by
      intro τ hF hC ho hkn
      have hso := tX8_soonest (E := E) (d := d + 1) hsl hpn n1 n6 hC rfl ho hkn
      by_cases hz : q.1 < (soA S p w (rSet (sR S r)) q.1).1
      · rw [show soO S c q.1 (soA S p w (rSet (sR S r)) q.1) = _ from if_pos hz] at e0
        refine z_aload_n 173 dX9_soon_172 rfl rfl ?_
        refine gX9_67 176 rfl dX9_soon_173 rfl ?_
        refine z_cVI0 179 (hso) kX8_soonest dX9_soon_176 rfl lX9_311 (by first | assumption | rfl) (Nat.le_of_ble_eq_true rfl) ?_
        rintro x1 τ1 ⟨e1, hF1, hv1⟩
        replace e1 : x1 = -9 := e1.trans (if_pos hz)
        subst e1
        have hF2 : Fr (fun x y => 8 ≤ x ∧ x ≤ 12 ∨ 19 ≤ x ∧ x ≤ 23) σ τ1 := hF.tr hF1 (fun _ _ h => h) (by intros; omega)
        refine zs_istore_6_7 181 rfl dX9_soon_179 rfl rfl ?_
        refine z_iload 183 dX9_soon_181 rfl rfl ?_
        refine z_bipush 185 (v := (-9)) dX9_soon_183 rfl rfl ?_
        refine z_icmp_ne 191 188 dX9_soon_185 (by decide) rfl (fun h185 => ?_) (fun h185 => ?_)
        · exact absurd rfl h185
        · refine z_bipush 190 (v := (-9)) dX9_soon_188 rfl rfl ?_
          refine z_ri dX9_soon_190 rfl ?_
          exact qx0 e0 (hpw τ1 hF2) (hF2.mono (by intros; omega))
      · rw [show soO S c q.1 (soA S p w (rSet (sR S r)) q.1) = _ from if_neg hz] at e0
        refine z_aload_n 173 dX9_soon_172 rfl rfl ?_
        refine gX9_67 176 rfl dX9_soon_173 rfl ?_
        refine z_cVI0 179 (hso) kX8_soonest dX9_soon_176 rfl lX9_311 (by first | assumption | rfl) (Nat.le_of_ble_eq_true rfl) ?_
        rintro x1 τ1 ⟨e1, hF1, hv1⟩
        replace e1 : x1 = nI (soA S p w (rSet (sR S r)) q.1).1 := e1.trans (if_neg hz)
        subst e1
        have hF2 : Fr (fun x y => 8 ≤ x ∧ x ≤ 12 ∨ 19 ≤ x ∧ x ≤ 23) σ τ1 := hF.tr hF1 (fun _ _ h => h) (by intros; omega)
        have hn1 : gi τ1 19 4 = nI q.1 := (hF1.gi (by omega)).trans hC.1
        refine zs_istore_6_7 181 rfl dX9_soon_179 rfl rfl ?_
        refine z_iload 183 dX9_soon_181 rfl rfl ?_
        refine z_bipush 185 (v := (-9)) dX9_soon_183 rfl rfl ?_
        refine z_icmp_ne 191 188 dX9_soon_185 (by decide) rfl (fun h185 => ?_) (fun h185 => ?_)
        · refine z_aload_n 192 dX9_soon_191 rfl rfl ?_
          refine gX9_11 195 rfl dX9_soon_192 rfl ?_
          refine z_iload 197 dX9_soon_195 rfl rfl ?_
          refine z_aald1 198 dX9_soon_197 rfl (by omega) ?_
          refine z_aload_n 199 dX9_soon_198 rfl rfl ?_
          refine gX9_67 202 rfl dX9_soon_199 rfl ?_
          refine gX9_314 205 rfl dX9_soon_202 rfl (by first | assumption | rfl) ?_
          refine z_aload_n 206 dX9_soon_205 rfl rfl ?_
          refine gX9_67 209 rfl dX9_soon_206 rfl ?_
          refine gX9_303 212 rfl dX9_soon_209 rfl (by first | assumption | rfl) ?_
          rw [hn1]
          refine z_cVV2 215 (tX7_take (b := 19 + 3) (cb := 6) hkc hkc1 rfl (by omega) n6) kX7_take dX9_soon_212 rfl lX9_209 (by first | assumption | rfl) (Nat.le_of_ble_eq_true rfl) ?_
          rintro τ2 ⟨hF3, hS3⟩
          refine z_iload 217 dX9_soon_215 rfl rfl ?_
          refine z_ri dX9_soon_217 rfl ?_
          exact qx0 e0 ((hpw τ1 hF2).R hW hF3 hc (hS3.cong (hv1 hz))) (hF2.tr hF3 (by intros; omega) (by intros; omega))
        · exact absurd (nI_pos' (show (soA S p w (rSet (sR S r)) q.1).1 < 2 ^ 31 by omega)) (by rw [h185]; decide)
    have loop : ∀ m, m ≤ 2 ^ q.1 → 1 ≤ m → ∀ τ, Fr (fun x y => 8 ≤ x ∧ x ≤ 12 ∨ 19 ≤ x ∧ x ≤ 23) σ τ → WtC τ (rSet (sR S r)) q.1 (decide ((sPl S p).1 = 3)) → (∀ x, x < q.1 → gi τ 21 x = nI x) → WtK τ S p w (rSet (sR S r)) q.1 m → At E mX9_soon (d + 4) (qX σ (spSoon S (nI p) (nI w) (nI r) (nI c))) 96 [some (zr E 0), some (.int (nI p)), some (.int (nI w)), some (.int (nI r)), some (.int (nI c)), some (.int (nI 0)), some (.int (nI m))] [] τ := by
      refine z_up (fun m hm ih m1 τ hF hC ho hkn => ?_)
      by_cases hme : m = 2 ^ q.1
      · rw [hme] at hkn ⊢
        refine z_iload 98 dX9_soon_96 rfl rfl ?_
        refine z_iconst 99 (v := nI 1) dX9_soon_98 rfl rfl ?_
        refine z_aload_n 100 dX9_soon_99 rfl rfl ?_
        refine gX9_67 103 rfl dX9_soon_100 rfl ?_
        refine gX9_303 106 rfl dX9_soon_103 rfl (by first | assumption | rfl) ?_
        rw [hC.1]
        refine z_ishl 107 dX9_soon_106 rfl ?_
        rw [zb_shl (by omega)]
        refine z_icmp_ge 172 110 dX9_soon_107 (by decide) rfl (fun h107 => ?_) (fun h107 => ?_)
        · (try rw [nI_leI (by omega) (by omega)] at h107)
          exact fin τ hF hC ho hkn
        · (try rw [nI_leI (by omega) (by omega)] at h107)
          omega
      · have hml : m < 2 ^ q.1 := by omega
        obtain ⟨k1, k2, k3⟩ := sM_ok hsl hpn n6 m1 hml
        have hgl : hG (gSS S p (pop (sM (blG (rSet (sR S r))) m q.1)) (blG (sM (blG (rSet (sR S r))) m q.1)) none) (sBw S 0) (fv S p) < sBw S 0 := hG_lt o5
        have nxt' : ∀ τ1 b, Fr (fun x y => 8 ≤ x ∧ x ≤ 12) τ τ1 → b = decide (kS S p w (sM (blG (rSet (sR S r))) m q.1)) → At E mX9_soon (d + 4) (qX σ (spSoon S (nI p) (nI w) (nI r) (nI c))) 163 [some (zr E 0), some (.int (nI p)), some (.int (nI w)), some (.int (nI r)), some (.int (nI c)), some (.int (nI 0)), some (.int (nI m))] [.int (bI b), .int (nI m), zr E 19] τ1 := by
          intro τ1 b hF1 eb
          have hf : Fr (fun x _ => x = 23) τ1 (si τ1 23 m (bI b)) := Fr.rf.si _ rfl
          have hF2 : Fr (fun x y => 8 ≤ x ∧ x ≤ 12 ∨ x = 23) τ (si τ1 23 m (bI b)) := hF1.tr hf (fun _ _ h => Or.inl h) (fun _ _ h => Or.inr h)
          refine z_cVV2 166 (tX8_learn (b := b) (show m < 64 by omega)) kX8_learn dX9_soon_163 rfl lX9_308 (by first | assumption | rfl) (Nat.le_of_ble_eq_true rfl) ?_
          rintro _ e2
          replace e2 := e2.symm
          subst e2
          refine zs_iinc_6_7_1 169 rfl dX9_soon_166 rfl rfl ?_
          rw [nI_add]
          refine z_goto 96 dX9_soon_169 rfl ?_
          exact ih (m + 1) (by omega) (by omega) (by omega) _ (hF.tr hF2 (fun _ _ h => h) (by intros; omega)) (hC.fr hF2 (by intros; omega) (by intros; omega)) (fun x hx => (hF2.gi (by omega)).trans (ho x hx)) (fun k hk1 hk2 => by
            rw [gi_si]
            by_cases hkm : k = m
            · rw [if_pos ⟨rfl, hkm⟩, hkm, eb]
            · rw [if_neg (fun z => hkm z.2), hF1.gi (by omega)]; exact hkn k hk1 (by omega))
        refine z_iload 98 dX9_soon_96 rfl rfl ?_
        refine z_iconst 99 (v := nI 1) dX9_soon_98 rfl rfl ?_
        refine z_aload_n 100 dX9_soon_99 rfl rfl ?_
        refine gX9_67 103 rfl dX9_soon_100 rfl ?_
        refine gX9_303 106 rfl dX9_soon_103 rfl (by first | assumption | rfl) ?_
        rw [hC.1]
        refine z_ishl 107 dX9_soon_106 rfl ?_
        rw [zb_shl (by omega)]
        refine z_icmp_ge 172 110 dX9_soon_107 (by decide) rfl (fun h107 => ?_) (fun h107 => ?_)
        · (try rw [nI_leI (by omega) (by omega)] at h107)
          omega
        · (try rw [nI_leI (by omega) (by omega)] at h107)
          refine z_aload_n 111 dX9_soon_110 rfl rfl ?_
          refine gX9_67 114 rfl dX9_soon_111 rfl ?_
          refine z_iload 116 dX9_soon_114 rfl rfl ?_
          refine z_aload_n 117 dX9_soon_116 rfl rfl ?_
          refine gX9_46 120 rfl dX9_soon_117 rfl ?_
          refine z_cVV2 123 (tX8_partsAt hsl hpn n6 m1 hml hC) kX8_partsAt dX9_soon_120 rfl lX9_304 (by first | assumption | rfl) (Nat.le_of_ble_eq_true rfl) ?_
          rintro τ1 ⟨hF1, hD1⟩
          have hX1 : RX S τ1 := hpw τ1 (hF.tr hF1 (fun _ _ h => h) (by intros; omega))
          refine z_aload_n 124 dX9_soon_123 rfl rfl ?_
          refine gX9_53 127 rfl dX9_soon_124 rfl ?_
          refine z_aload_n 128 dX9_soon_127 rfl rfl ?_
          refine gX9_26 131 rfl dX9_soon_128 rfl ?_
          refine z_iload_n 132 dX9_soon_131 rfl rfl ?_
          refine z_aald4 133 dX9_soon_132 rfl (by omega) ?_
          refine z_aload_n 134 dX9_soon_133 rfl rfl ?_
          refine gX9_46 137 rfl dX9_soon_134 rfl ?_
          refine z_null 138 dX9_soon_137 rfl ?_
          refine z_cVV3 141 (tX6_reckonS (o := none) hW hX1 hp hD1 (bl_ok k2 k3) ByV.none) kX6_reckon dX9_soon_138 rfl lX9_225 (by first | assumption | rfl) (Nat.le_of_ble_eq_true rfl) ?_
          rintro τ2 ⟨hF2, hX2, hS2⟩
          have hF3 : Fr (fun x y => 8 ≤ x ∧ x ≤ 12) τ τ2 := hF1.tr hF2 (by intros; omega) (by intros; omega)
          refine z_aload_n 142 dX9_soon_141 rfl rfl ?_
          refine gX9_67 145 rfl dX9_soon_142 rfl ?_
          refine z_iload 147 dX9_soon_145 rfl rfl ?_
          refine z_aload_n 148 dX9_soon_147 rfl rfl ?_
          refine gX9_53 151 rfl dX9_soon_148 rfl ?_
          refine gX9_201 154 rfl dX9_soon_151 rfl (by first | assumption | rfl) ?_
          rw [hS2.2.1]
          refine z_iload_n 155 dX9_soon_154 rfl rfl ?_
          refine z_icmp_ne 162 158 dX9_soon_155 (by decide) rfl (fun h155 => ?_) (fun h155 => ?_)
          · (try rw [nI_eq (by omega) (by omega)] at h155)
            refine z_iconst 163 (v := nI 0) dX9_soon_162 rfl rfl ?_
            first
              | exact nxt' τ2 false hF3 (decide_eq_false h155).symm
              | exact nxt' τ2 true hF3 (decide_eq_true h155).symm
          · (try rw [nI_eq (by omega) (by omega)] at h155)
            refine z_iconst 159 (v := nI 1) dX9_soon_158 rfl rfl ?_
            refine z_goto 163 dX9_soon_159 rfl ?_
            first
              | exact nxt' τ2 false hF3 (decide_eq_false h155).symm
              | exact nxt' τ2 true hF3 (decide_eq_true h155).symm
    have at90 : ∀ b, b = decide ((sPl S p).1 = 3) → At E mX9_soon (d + 4) (qX σ (spSoon S (nI p) (nI w) (nI r) (nI c))) 90 [some (zr E 0), some (.int (nI p)), some (.int (nI w)), some (.int (nI r)), some (.int (nI c)), some (.int (nI 0)), none] [.int (bI b), .int (nI (rSet (sR S r))), zr E 19] σ := by
      intro b eb
      refine z_cVV2 93 (tX8_begin (b := b) hsl hpn n6) kX8_begin dX9_soon_90 rfl lX9_299 (by first | assumption | rfl) (Nat.le_of_ble_eq_true rfl) ?_
      rintro τ1 ⟨hF1, hC1, ho1⟩
      refine z_iconst 94 (v := nI 1) dX9_soon_93 rfl rfl ?_
      refine zs_istore_6_7 96 rfl dX9_soon_94 rfl rfl ?_
      rw [eb] at hC1
      exact loop 1 (Nat.two_pow_pos _) (Nat.le_refl _) τ1 (hF1.mono (by intros; omega)) hC1 ho1 (fun k h1 h2 => by omega)
    refine z_aload_n 1 dX9_soon_0 rfl rfl ?_
    refine z_iload_n 2 dX9_soon_1 rfl rfl ?_
    refine z_cVI1 5 (tX9_isPl (by assumption) (by assumption)) kX9_isPlayer dX9_soon_2 rfl lX9_176 (by first | assumption | rfl) (Nat.le_of_ble_eq_true rfl) ?_
    rintro _ _ ⟨e1, e2⟩
    replace e1 := e1.symm
    replace e2 := e2.symm
    subst e1
    subst e2
    refine z_ifb_eq 31 8 dX9_soon_5 (by decide) rfl (fun h5 => ?_) (fun h5 => ?_)
    · exact absurd b1 h5
    · refine z_aload_n 9 dX9_soon_8 rfl rfl ?_
      refine z_iload_n 10 dX9_soon_9 rfl rfl ?_
      refine z_cVI1 13 (tX9_isWord (by assumption) (by assumption)) kX9_isWord dX9_soon_10 rfl lX9_165 (by first | assumption | rfl) (Nat.le_of_ble_eq_true rfl) ?_
      rintro _ _ ⟨e1, e2⟩
      replace e1 := e1.symm
      replace e2 := e2.symm
      subst e1
      subst e2
      refine z_ifb_eq 31 16 dX9_soon_13 (by decide) rfl (fun h13 => ?_) (fun h13 => ?_)
      · exact absurd b2 h13
      · refine z_iload_n 17 dX9_soon_16 rfl rfl ?_
        refine z_cSI1 20 (tX9_isRow) kX9_isRow dX9_soon_17 rfl lX9_83 (Nat.le_of_ble_eq_true rfl) ?_
        rintro _ _ ⟨e1, e2⟩
        replace e1 := e1.symm
        replace e2 := e2.symm
        subst e1
        subst e2
        refine z_ifb_eq 31 23 dX9_soon_20 (by decide) rfl (fun h20 => ?_) (fun h20 => ?_)
        · exact absurd b3 h20
        · refine z_iload 25 dX9_soon_23 rfl rfl ?_
          refine z_cSI1 28 (tX9_isRow) kX9_isRow dX9_soon_25 rfl lX9_83 (Nat.le_of_ble_eq_true rfl) ?_
          rintro _ _ ⟨e1, e2⟩
          replace e1 := e1.symm
          replace e2 := e2.symm
          subst e1
          subst e2
          refine z_ifb_ne 33 31 dX9_soon_28 (by decide) rfl (fun h28 => ?_) (fun h28 => ?_)
          · refine z_aload_n 34 dX9_soon_33 rfl rfl ?_
            refine gX9_11 37 rfl dX9_soon_34 rfl ?_
            refine z_iload_n 38 dX9_soon_37 rfl rfl ?_
            refine z_aald1 39 dX9_soon_38 rfl (by omega) ?_
            refine z_cVI0 42 (tX7_drawnFault hk hk1 hS) kX7_drawnFault dX9_soon_39 rfl lX9_216 (by first | assumption | rfl) (Nat.le_of_ble_eq_true rfl) ?_
            rintro _ _ ⟨e1, e2⟩
            replace e1 := e1.symm
            replace e2 := e2.symm
            subst e1
            subst e2
            rw [hD]
            refine zs_istore_5_7 44 rfl dX9_soon_42 rfl rfl ?_
            refine z_iload 46 dX9_soon_44 rfl rfl ?_
            refine z_if_eq 59 49 dX9_soon_46 (by decide) rfl (fun h46 => ?_) (fun h46 => ?_)
            · (try rw [nI_eq0 (by omega)] at h46)
              refine z_aload_n 60 dX9_soon_59 rfl rfl ?_
              refine gX9_67 63 rfl dX9_soon_60 rfl ?_
              refine z_aload_n 64 dX9_soon_63 rfl rfl ?_
              refine gX9_11 67 rfl dX9_soon_64 rfl ?_
              refine z_iload_n 68 dX9_soon_67 rfl rfl ?_
              refine z_aald1 69 dX9_soon_68 rfl (by omega) ?_
              refine z_cVI0 72 (tX7_partSet (g := gOf (sR S r)) hk hk1 hS' (fun i hi => ⟨hqg i hi, (hpt.2.2 i hi).1⟩)) kX7_partSet dX9_soon_69 rfl lX9_293 (by first | assumption | rfl) (Nat.le_of_ble_eq_true rfl) ?_
              rintro _ _ ⟨e1, e2⟩
              replace e1 := e1.symm
              replace e2 := e2.symm
              subst e1
              subst e2
              rw [hrs]
              refine z_aload_n 73 dX9_soon_72 rfl rfl ?_
              refine gX9_26 76 rfl dX9_soon_73 rfl ?_
              refine z_iload_n 77 dX9_soon_76 rfl rfl ?_
              refine z_aald4 78 dX9_soon_77 rfl (by omega) ?_
              refine gX9_296 81 rfl dX9_soon_78 rfl (by first | assumption | rfl) ?_
              rw [(hX.py hp).1]
              refine z_iconst 82 (v := nI 3) dX9_soon_81 rfl rfl ?_
              refine z_icmp_ne 89 85 dX9_soon_82 (by decide) rfl (fun h82 => ?_) (fun h82 => ?_)
              · (try rw [nI_eq (by omega) (by omega)] at h82)
                refine z_iconst 90 (v := nI 0) dX9_soon_89 rfl rfl ?_
                first
                  | exact at90 false (decide_eq_false h82).symm
                  | exact at90 true (decide_eq_true h82).symm
              · (try rw [nI_eq (by omega) (by omega)] at h82)
                refine z_iconst 86 (v := nI 1) dX9_soon_85 rfl rfl ?_
                refine z_goto 90 dX9_soon_86 rfl ?_
                first
                  | exact at90 false (decide_eq_false h82).symm
                  | exact at90 true (decide_eq_true h82).symm
            · (try rw [nI_eq0 (by omega)] at h46)
              exact absurd rfl h46
          · exact absurd b4 h28
  · rw [if_pos hD] at e0
    refine z_aload_n 1 dX9_soon_0 rfl rfl ?_
    refine z_iload_n 2 dX9_soon_1 rfl rfl ?_
    refine z_cVI1 5 (tX9_isPl (by assumption) (by assumption)) kX9_isPlayer dX9_soon_2 rfl lX9_176 (by first | assumption | rfl) (Nat.le_of_ble_eq_true rfl) ?_
    rintro _ _ ⟨e1, e2⟩
    replace e1 := e1.symm
    replace e2 := e2.symm
    subst e1
    subst e2
    refine z_ifb_eq 31 8 dX9_soon_5 (by decide) rfl (fun h5 => ?_) (fun h5 => ?_)
    · exact absurd b1 h5
    · refine z_aload_n 9 dX9_soon_8 rfl rfl ?_
      refine z_iload_n 10 dX9_soon_9 rfl rfl ?_
      refine z_cVI1 13 (tX9_isWord (by assumption) (by assumption)) kX9_isWord dX9_soon_10 rfl lX9_165 (by first | assumption | rfl) (Nat.le_of_ble_eq_true rfl) ?_
      rintro _ _ ⟨e1, e2⟩
      replace e1 := e1.symm
      replace e2 := e2.symm
      subst e1
      subst e2
      refine z_ifb_eq 31 16 dX9_soon_13 (by decide) rfl (fun h13 => ?_) (fun h13 => ?_)
      · exact absurd b2 h13
      · refine z_iload_n 17 dX9_soon_16 rfl rfl ?_
        refine z_cSI1 20 (tX9_isRow) kX9_isRow dX9_soon_17 rfl lX9_83 (Nat.le_of_ble_eq_true rfl) ?_
        rintro _ _ ⟨e1, e2⟩
        replace e1 := e1.symm
        replace e2 := e2.symm
        subst e1
        subst e2
        refine z_ifb_eq 31 23 dX9_soon_20 (by decide) rfl (fun h20 => ?_) (fun h20 => ?_)
        · exact absurd b3 h20
        · refine z_iload 25 dX9_soon_23 rfl rfl ?_
          refine z_cSI1 28 (tX9_isRow) kX9_isRow dX9_soon_25 rfl lX9_83 (Nat.le_of_ble_eq_true rfl) ?_
          rintro _ _ ⟨e1, e2⟩
          replace e1 := e1.symm
          replace e2 := e2.symm
          subst e1
          subst e2
          refine z_ifb_ne 33 31 dX9_soon_28 (by decide) rfl (fun h28 => ?_) (fun h28 => ?_)
          · refine z_aload_n 34 dX9_soon_33 rfl rfl ?_
            refine gX9_11 37 rfl dX9_soon_34 rfl ?_
            refine z_iload_n 38 dX9_soon_37 rfl rfl ?_
            refine z_aald1 39 dX9_soon_38 rfl (by omega) ?_
            refine z_cVI0 42 (tX7_drawnFault hk hk1 hS) kX7_drawnFault dX9_soon_39 rfl lX9_216 (by first | assumption | rfl) (Nat.le_of_ble_eq_true rfl) ?_
            rintro _ _ ⟨e1, e2⟩
            replace e1 := e1.symm
            replace e2 := e2.symm
            subst e1
            subst e2
            refine zs_istore_5_7 44 rfl dX9_soon_42 rfl rfl ?_
            refine z_iload 46 dX9_soon_44 rfl rfl ?_
            refine z_if_eq 59 49 dX9_soon_46 (by decide) rfl (fun h46 => ?_) (fun h46 => ?_)
            · (try rw [nI_eq0 (by omega)] at h46)
              exact absurd h46 hD
            · (try rw [nI_eq0 (by omega)] at h46)
              refine z_aload_n 50 dX9_soon_49 rfl rfl ?_
              refine gX9_39 53 rfl dX9_soon_50 rfl ?_
              refine z_iload 55 dX9_soon_53 rfl rfl ?_
              refine z_cVI1 58 (tX0_found (by omega) hpl) kX0_found dX9_soon_55 rfl lX9_87 (by first | assumption | rfl) (Nat.le_of_ble_eq_true rfl) ?_
              rintro _ _ ⟨e1, e2⟩
              replace e1 := e1.symm
              replace e2 := e2.symm
              subst e1
              subst e2
              refine z_ri dX9_soon_58 rfl ?_
              exact qxf hW e0 hpl hX Fr.rf
          · exact absurd b4 h28
