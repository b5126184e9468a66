/-! the law's loop -/
theorem lw_small : ∀ l : Fin 6, ∀ i : Fin 6, nI l.val - nI 6 < nI i.val := by decide +kernel
theorem lw_more {L i : Nat} (hL : L ≤ 3072) (hi : i ≤ L) (h : ¬ nI L - nI 6 < nI i) : i + 6 ≤ L := by
  rcases Nat.lt_or_ge L 6 with q | q
  · exact absurd (lw_small ⟨L, q⟩ ⟨i, by omega⟩) h
  · rw [nI_sub q] at h
    rcases Nat.lt_or_ge (L - 6) i with q2 | q2
    · exact absurd (nI_lt q2 (by omega)) h
    · omega
theorem law_loop {E : zE} {b L : Nat} {xs : Nat → Int32} (hL : L ≤ 3072) : ∀ (n i : Nat) (σ : zM) (S : sS), i ≤ L → L + 1 ≤ i + n → WF S → RX S σ → RM S σ → Lw E b L xs 18 (lsL E b i) [] σ := by
  intro n
  induction n with
  | zero =>
    intro i σ S h1 h2
    exact absurd h2 (by omega)
  | succ n ih =>
    intro i σ S hi hn hW hX hM
    refine w_iload_n 19 dL_law_18 rfl rfl ?_
    refine w_aload_n 20 dL_law_19 rfl rfl ?_
    refine w_slen 21 dL_law_20 rfl ?_
    refine w_bipush (v := nI 6) 23 dL_law_21 rfl (by decide) ?_
    refine w_isub 24 dL_law_23 rfl ?_
    refine w_icmp_gt 1893 27 dL_law_24 (by decide) rfl (fun _ => ?_) (fun h => ?_)
    · exact w_iconst (v := 1) 1894 dL_law_1893 rfl (by decide) (w_end dL_law_1894)
    · have h6 := lw_more hL hi h
      have K : ∀ (S' : sS) (τ : zM), WF S' → RX S' τ → RM S' τ → Lw E b L xs 1887 (lsL E b i) [] τ := by
        intro S' τ a1 a2 a3
        refine w_iinc 1890 dL_law_1887 rfl rfl (v := nI (i + 6)) (by rw [← nI_add]; rfl) (by decide) rfl rfl ?_
        refine w_goto 18 dL_law_1890 (by decide) ?_
        exact ih (i + 6) τ S' h6 (by omega) a1 a2 a3
      refine w_aload_n 28 dL_law_27 rfl rfl ?_
      refine w_iload_n 29 dL_law_28 rfl rfl ?_
      refine w_sld 30 dL_law_29 rfl (vp_in_nI (by omega) (by omega)) ?_
      refine w_bipush (v := 63) 32 dL_law_30 rfl (by decide) ?_
      refine w_iand 33 dL_law_32 rfl ?_
      generalize xs (nI i).toNatClampNeg &&& 63 = x
      by_cases hx : x.toInt < 0 ∨ 47 < x.toInt
      · exact w_tabOut 1887 dL_law_33 hx (by decide) (K S σ hW hX hM)
      · have hx1 : ¬ x.toInt < 0 := fun q => hx (Or.inl q)
        have hx2 : ¬ (47 : Int) < x.toInt := fun q => hx (Or.inr q)
        obtain ⟨k, hk⟩ : ∃ k : Nat, x.toInt = (k : Int) := ⟨x.toInt.toNat, by omega⟩
        have hk47 : k < 48 := by omega
        have hgo : ∀ (tgt : Nat) (off : Int), (#[207, 240, 283, 316, 339, 402, 425, 458, 501, 524, 557, 600, 653, 686, 719, 762, 815, 868, 911, 934, 977, 1020, 1073, 1106, 1149, 1192, 1235, 1288, 1321, 1344, 1387, 1440, 1473, 1496, 1519, 1542, 1565, 1578, 1641, 1694, 1717, 1740, 1753, 1767, 1781, 1804, 1817, 1840] : Array Int)[k]? = some off → (33 : Int) + off = (tgt : Int) → Lw E b L xs tgt (lsL E b i) [] σ → Lw E b L xs 33 (lsL E b i) [.int x] σ := fun tgt off ho ht kk => w_tabIn tgt dL_law_33 hx1 hx2 (by rw [hk, show ((k : Int) - 0).toNat = k by omega]; exact ho) ht kk
        rcases (by omega : k = 0 ∨ k = 1 ∨ k = 2 ∨ k = 3 ∨ k = 4 ∨ k = 5 ∨ k = 6 ∨ k = 7 ∨ k = 8 ∨ k = 9 ∨ k = 10 ∨ k = 11 ∨ k = 12 ∨ k = 13 ∨ k = 14 ∨ k = 15 ∨ k = 16 ∨ k = 17 ∨ k = 18 ∨ k = 19 ∨ k = 20 ∨ k = 21 ∨ k = 22 ∨ k = 23 ∨ k = 24 ∨ k = 25 ∨ k = 26 ∨ k = 27 ∨ k = 28 ∨ k = 29 ∨ k = 30 ∨ k = 31 ∨ k = 32 ∨ k = 33 ∨ k = 34 ∨ k = 35 ∨ k = 36 ∨ k = 37 ∨ k = 38 ∨ k = 39 ∨ k = 40 ∨ k = 41 ∨ k = 42 ∨ k = 43 ∨ k = 44 ∨ k = 45 ∨ k = 46 ∨ k = 47) with rfl | rfl | rfl | rfl | rfl | rfl | rfl | rfl | rfl | rfl | rfl | rfl | rfl | rfl | rfl | rfl | rfl | rfl | rfl | rfl | rfl | rfl | rfl | rfl | rfl | rfl | rfl | rfl | rfl | rfl | rfl | rfl | rfl | rfl | rfl | rfl | rfl | rfl | rfl | rfl | rfl | rfl | rfl | rfl | rfl | rfl | rfl | rfl
        · exact hgo 240 207 rfl rfl (lc_0 hL h6 hW hX hM K)
        · exact hgo 273 240 rfl rfl (lc_1 hL h6 hW hX hM K)
        · exact hgo 316 283 rfl rfl (lc_2 hL h6 hW hX hM K)
        · exact hgo 349 316 rfl rfl (lc_3 hL h6 hW hX hM K)
        · exact hgo 372 339 rfl rfl (lc_4 hL h6 hW hX hM K)
        · exact hgo 435 402 rfl rfl (lc_5 hL h6 hW hX hM K)
        · exact hgo 458 425 rfl rfl (lc_6 hL h6 hW hX hM K)
        · exact hgo 491 458 rfl rfl (lc_7 hL h6 hW hX hM K)
        · exact hgo 534 501 rfl rfl (lc_8 hL h6 hW hX hM K)
        · exact hgo 557 524 rfl rfl (lc_9 hL h6 hW hX hM K)
        · exact hgo 590 557 rfl rfl (lc_10 hL h6 hW hX hM K)
        · exact hgo 633 600 rfl rfl (lc_11 hL h6 hW hX hM K)
        · exact hgo 686 653 rfl rfl (lc_12 hL h6 hW hX hM K)
        · exact hgo 719 686 rfl rfl (lc_13 hL h6 hW hX hM K)
        · exact hgo 752 719 rfl rfl (lc_14 hL h6 hW hX hM K)
        · exact hgo 795 762 rfl rfl (lc_15 hL h6 hW hX hM K)
        · exact hgo 848 815 rfl rfl (lc_16 hL h6 hW hX hM K)
        · exact hgo 901 868 rfl rfl (lc_17 hL h6 hW hX hM K)
        · exact hgo 944 911 rfl rfl (lc_18 hL h6 hW hX hM K)
        · exact hgo 967 934 rfl rfl (lc_19 hL h6 hW hX hM K)
        · exact hgo 1010 977 rfl rfl (lc_20 hL h6 hW hX hM K)
        · exact hgo 1053 1020 rfl rfl (lc_21 hL h6 hW hX hM K)
        · exact hgo 1106 1073 rfl rfl (lc_22 hL h6 hW hX hM K)
        · exact hgo 1139 1106 rfl rfl (lc_23 hL h6 hW hX hM K)
        · exact hgo 1182 1149 rfl rfl (lc_24 hL h6 hW hX hM K)
        · exact hgo 1225 1192 rfl rfl (lc_25 hL h6 hW hX hM K)
        · exact hgo 1268 1235 rfl rfl (lc_26 hL h6 hW hX hM K)
        · exact hgo 1321 1288 rfl rfl (lc_27 hL h6 hW hX hM K)
        · exact hgo 1354 1321 rfl rfl (lc_28 hL h6 hW hX hM K)
        · exact hgo 1377 1344 rfl rfl (lc_29 hL h6 hW hX hM K)
        · exact hgo 1420 1387 rfl rfl (lc_30 hL h6 hW hX hM K)
        · exact hgo 1473 1440 rfl rfl (lc_31 hL h6 hW hX hM K)
        · exact hgo 1506 1473 rfl rfl (lc_32 hL h6 hW hX hM K)
        · exact hgo 1529 1496 rfl rfl (lc_33 hL h6 hW hX hM K)
        · exact hgo 1552 1519 rfl rfl (lc_34 hL h6 hW hX hM K)
        · exact hgo 1575 1542 rfl rfl (lc_35 hL h6 hW hX hM K)
        · exact hgo 1598 1565 rfl rfl (lc_36 hL h6 hW hX hM K)
        · exact hgo 1611 1578 rfl rfl (lc_37 hL h6 hW hX hM K)
        · exact hgo 1674 1641 rfl rfl (lc_38 hL h6 hW hX hM K)
        · exact hgo 1727 1694 rfl rfl (lc_39 hL h6 hW hX hM K)
        · exact hgo 1750 1717 rfl rfl (lc_40 hL h6 hW hX hM K)
        · exact hgo 1773 1740 rfl rfl (lc_41 hL h6 hW hX hM K)
        · exact hgo 1786 1753 rfl rfl (lc_42 hL h6 hW hX hM K)
        · exact hgo 1800 1767 rfl rfl (lc_43 hL h6 hW hX hM K)
        · exact hgo 1814 1781 rfl rfl (lc_44 hL h6 hW hX hM K)
        · exact hgo 1837 1804 rfl rfl (lc_45 hL h6 hW hX hM K)
        · exact hgo 1850 1817 rfl rfl (lc_46 hL h6 hW hX hM K)
        · exact hgo 1873 1840 rfl rfl (lc_47 hL h6 hW hX hM K)
