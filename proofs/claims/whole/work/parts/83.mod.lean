/-! the reference's constructor -/
/-- its cells: the others before, its own, the two rows that get a value at each place -/
def mW (E : zE) (r t : Nat) : zN := fun k => if k = 104 then .inl (E.2.2.2.2 0, 6, .inl (fun j => if j < r then -9 else 0)) else if k = 107 then .inl (E.2.2.2.2 0, 4, .inl (fun j => if j < t then -9 else 0)) else zC E st0 k
theorem mW_ne {E : zE} {r t k : Nat} (h1 : k ≠ 104) (h2 : k ≠ 107) : mW E r t k = zC E st0 k := by
  unfold mW
  rw [if_neg h1, if_neg h2]
theorem up9 (r : Nat) : upd (fun j => if j < r then (-9 : Int32) else 0) r (-9) = fun j => if j < r + 1 then (-9 : Int32) else 0 := by
  funext j
  unfold upd
  by_cases h : j = r
  · subst h
    rw [if_pos rfl, if_pos (by omega)]
  · rw [if_neg h]
    show (if j < r then (-9 : Int32) else 0) = _
    by_cases h2 : j < r
    · rw [if_pos h2, if_pos (by omega)]
    · rw [if_neg h2, if_neg (by omega)]
theorem mW_104 {E : zE} {r t N : Nat} : wle E N (zu (mW E r t) 104 (.inl (E.2.2.2.2 0, 6, .inl (upd (fun j => if j < r then (-9 : Int32) else 0) r (-9))))) (mW E (r + 1) t) := by
  refine wle.eq fun k hk => ?_
  rw [up9]
  by_cases h : k = 104
  · subst h
    rw [zu_same]
    rfl
  · rw [zu_ne _ _ h]
    unfold mW
    rw [if_neg h, if_neg h]
theorem mW_107 {E : zE} {r t N : Nat} : wle E N (zu (mW E r t) 107 (.inl (E.2.2.2.2 0, 4, .inl (upd (fun j => if j < t then (-9 : Int32) else 0) t (-9))))) (mW E r (t + 1)) := by
  refine wle.eq fun k hk => ?_
  rw [up9]
  by_cases h : k = 107
  · subst h
    rw [zu_same]
    rfl
  · rw [zu_ne _ _ h]
    unfold mW
    rw [if_neg h, if_neg h]
theorem mW_end {E : zE} {N : Nat} : wle E N (mW E 6 4) (zC E st0) := by
  refine wle.eq fun k hk => ?_
  unfold mW
  by_cases h : k = 104
  · subst h
    rw [if_pos rfl]
    have e : (fun j => if j < 6 then (-9 : Int32) else 0) = st0.1 104 := by
      funext j
      show _ = bif Nat.blt j 6 then (-9 : Int32) else 0
      by_cases h2 : j < 6
      · rw [if_pos h2, Nat.blt_eq.mpr h2]; rfl
      · rw [if_neg h2, show Nat.blt j 6 = false from Bool.eq_false_iff.mpr (fun q => h2 (Nat.blt_eq.mp q))]; rfl
    rw [e]
    rfl
  · rw [if_neg h]
    by_cases h1 : k = 107
    · subst h1
      rw [if_pos rfl]
      have e : (fun j => if j < 4 then (-9 : Int32) else 0) = st0.1 107 := by
        funext j
        show _ = bif Nat.blt j 4 then (-9 : Int32) else 0
        by_cases h2 : j < 4
        · rw [if_pos h2, Nat.blt_eq.mpr h2]; rfl
        · rw [if_neg h2, show Nat.blt j 4 = false from Bool.eq_false_iff.mpr (fun q => h2 (Nat.blt_eq.mp q))]; rfl
      rw [e]
      rfl
    · rw [if_neg h1]
theorem lm1 {E : zE} {d : Nat} {Q : zN → Nat → Prop} (kE : Bt E mX10_init d 22 1287 Q 209 [some (zr E 102), some (.int (nI 6))] [] (mW E 6 0) 125 22 1287) : ∀ (n r : Nat), r + n = 6 → Bt E mX10_init d 22 1287 Q 189 [some (zr E 102), some (.int (nI r))] [] (mW E r 0) 125 22 1287 := by
  intro n
  induction n with
  | zero =>
    intro r hr
    obtain rfl : r = 6 := by omega
    refine b_iload_n 190 dX10_init_189 rfl rfl ?_
    refine b_bipush (v := nI 6) 192 dX10_init_190 rfl (by decide) ?_
    exact b_icmp_ge 209 195 dX10_init_192 (by decide) rfl (fun _ => kE) (fun h => absurd (by decide) h)
  | succ n ih =>
    intro r hr
    have hr6 : r < 6 := by omega
    refine b_iload_n 190 dX10_init_189 rfl rfl ?_
    refine b_bipush (v := nI 6) 192 dX10_init_190 rfl (by decide) ?_
    refine b_icmp_ge 209 195 dX10_init_192 (by decide) rfl (fun h => absurd h (nI_ge hr6 (by decide))) (fun _ => ?_)
    refine b_aload_n 196 dX10_init_195 rfl rfl ?_
    refine b_get 199 dX10_init_196 rfl (a := 102) (ci := 10) (j := 5) (fs := [.int 0, zr E 103, .int 0, .long 0, .long 1, zr E (104), zr E (105), zr E (106), zr E (107), zr E (108), zr E (109), zr E (110), .int 0, .int 0, zr E (111), zr E (112), .int 0, zr E (113), .int 0, zr E (114), zr E (115), zr E (116), .int 0, zr E (117), zr E (118), zr E (119), .int 0, zr E (120), zr E (121), .long 0, .int 0, .int 0, zr E (122), zr E (123), .int 0, .int 0, zr E (124), .int 0, .long 0]) (v := zr E 104) (by decide) (mW_ne (by decide) (by decide)) rfl iX10 (by decide) fX10_17 rfl rfl ?_
    refine b_iload_n 200 dX10_init_199 rfl rfl ?_
    refine b_bipush (v := -9) 202 dX10_init_200 rfl (by decide) ?_
    refine b_iast 203 dX10_init_202 rfl (a := 104) (n := 6) (f := fun j => if j < r then (-9 : Int32) else 0) (by decide) rfl (vp_in_nI hr6 (by decide)) ?_
    rw [nI_clamp (by omega)]
    refine b_iinc 206 dX10_init_203 rfl rfl (v := nI (r + 1)) (by rw [← nI_1]; rfl) (by decide) rfl rfl ?_
    refine b_goto 189 dX10_init_206 (by decide) ?_
    exact b_le (mW E (r + 1) 0) mW_104 (ih (r + 1) (by omega))
theorem lm2 {E : zE} {d : Nat} {Q : zN → Nat → Prop} (kE : Bt E mX10_init d 22 1287 Q 230 [some (zr E 102), some (.int (nI 4))] [] (mW E 6 4) 125 22 1287) : ∀ (n r : Nat), r + n = 4 → Bt E mX10_init d 22 1287 Q 211 [some (zr E 102), some (.int (nI r))] [] (mW E 6 r) 125 22 1287 := by
  intro n
  induction n with
  | zero =>
    intro r hr
    obtain rfl : r = 4 := by omega
    refine b_iload_n 212 dX10_init_211 rfl rfl ?_
    refine b_iconst (v := nI 4) 213 dX10_init_212 rfl (by decide) ?_
    exact b_icmp_ge 230 216 dX10_init_213 (by decide) rfl (fun _ => kE) (fun h => absurd (by decide) h)
  | succ n ih =>
    intro r hr
    have hr6 : r < 4 := by omega
    refine b_iload_n 212 dX10_init_211 rfl rfl ?_
    refine b_iconst (v := nI 4) 213 dX10_init_212 rfl (by decide) ?_
    refine b_icmp_ge 230 216 dX10_init_213 (by decide) rfl (fun h => absurd h (nI_ge hr6 (by decide))) (fun _ => ?_)
    refine b_aload_n 217 dX10_init_216 rfl rfl ?_
    refine b_get 220 dX10_init_217 rfl (a := 102) (ci := 10) (j := 8) (fs := [.int 0, zr E 103, .int 0, .long 0, .long 1, zr E (104), zr E (105), zr E (106), zr E (107), zr E (108), zr E (109), zr E (110), .int 0, .int 0, zr E (111), zr E (112), .int 0, zr E (113), .int 0, zr E (114), zr E (115), zr E (116), .int 0, zr E (117), zr E (118), zr E (119), .int 0, zr E (120), zr E (121), .long 0, .int 0, .int 0, zr E (122), zr E (123), .int 0, .int 0, zr E (124), .int 0, .long 0]) (v := zr E 107) (by decide) (mW_ne (by decide) (by decide)) rfl iX10 (by decide) fX10_26 rfl rfl ?_
    refine b_iload_n 221 dX10_init_220 rfl rfl ?_
    refine b_bipush (v := -9) 223 dX10_init_221 rfl (by decide) ?_
    refine b_iast 224 dX10_init_223 rfl (a := 107) (n := 4) (f := fun j => if j < r then (-9 : Int32) else 0) (by decide) rfl (vp_in_nI hr6 (by decide)) ?_
    rw [nI_clamp (by omega)]
    refine b_iinc 227 dX10_init_224 rfl rfl (v := nI (r + 1)) (by rw [← nI_1]; rfl) (by decide) rfl rfl ?_
    refine b_goto 211 dX10_init_227 (by decide) ?_
    exact b_le (mW E 6 (r + 1)) mW_107 (ih (r + 1) (by omega))
/-- PadRoundModel() -/
theorem tX10_init {E : zE} {w : zN} (d : Nat) (hw : w 102 = .inr (10, [.int 0, .null, .int 0, .long 0, .long 0, .null, .null, .null, .null, .null, .null, .null, .int 0, .int 0, .null, .null, .int 0, .null, .int 0, .null, .null, .null, .int 0, .null, .null, .null, .int 0, .null, .null, .long 0, .int 0, .int 0, .null, .null, .int 0, .int 0, .null, .int 0, .long 0])) (hz : ∀ k, k < 102 → w k = zC E st0 k) : Rit E mX10_init d [zr E 102] w 103 (fun w' N' => N' = 103 + 22 ∧ wle E 125 w' (zC E st0)) 22 1287 := by
  refine Rit.of [some (zr E 102), none] (by decide +kernel) rfl (Nat.le_of_ble_eq_true rfl) rfl ?_
  refine b_aload_n 1 dX10_init_0 rfl rfl ?_
  refine b_obj 4 dX10_init_1 rfl obX10 oi oc ?_
  refine b_aload_n 5 dX10_init_4 rfl rfl ?_
  refine b_bipush (v := 6) 7 dX10_init_5 rfl (by decide) ?_
  refine b_newI 9 6 dX10_init_7 rfl (by decide) (by decide) (by decide) (by decide) (by decide) ?_
  refine b_putF 12 tyX10 tyX10_ok nmX10 dX10_init_9 rfl (a := 102) (ci := 10) (j := 1) (fs := [.int 0, .null, .int 0, .long 0, .long 0, .null, .null, .null, .null, .null, .null, .null, .int 0, .int 0, .null, .null, .int 0, .null, .int 0, .null, .null, .null, .int 0, .null, .null, .null, .int 0, .null, .null, .long 0, .int 0, .int 0, .null, .null, .int 0, .int 0, .null, .int 0, .long 0]) (by decide) ((zu_ne _ _ (by decide)).trans hw) rfl iX10 (by decide) fX10_7 rfl rfl rfl (tyX10_ok 1 (by decide)) rfl rfl (by simp) ?_
  refine b_aload_n 13 dX10_init_12 rfl rfl ?_
  refine b_lconst (v := 1) 14 dX10_init_13 rfl (by decide) ?_
  refine b_put 17 tyX10 tyX10_ok nmX10 dX10_init_14 rfl (a := 102) (ci := 10) (j := 4) (fs := [.int 0, zr E 103, .int 0, .long 0, .long 0, .null, .null, .null, .null, .null, .null, .null, .int 0, .int 0, .null, .null, .int 0, .null, .int 0, .null, .null, .null, .int 0, .null, .null, .null, .int 0, .null, .null, .long 0, .int 0, .int 0, .null, .null, .int 0, .int 0, .null, .int 0, .long 0]) (by decide) (zu_same _ _ _) rfl iX10 (by decide) fX10_13 rfl rfl (tyX10_ok 4 (by decide)) rfl rfl (by simp) ?_
  refine b_aload_n 18 dX10_init_17 rfl rfl ?_
  refine b_bipush (v := 6) 20 dX10_init_18 rfl (by decide) ?_
  refine b_newI 22 6 dX10_init_20 rfl (by decide) (by decide) (by decide) (by decide) (by decide) ?_
  refine b_putF 25 tyX10 tyX10_ok nmX10 dX10_init_22 rfl (a := 102) (ci := 10) (j := 5) (fs := [.int 0, zr E 103, .int 0, .long 0, .long 1, .null, .null, .null, .null, .null, .null, .null, .int 0, .int 0, .null, .null, .int 0, .null, .int 0, .null, .null, .null, .int 0, .null, .null, .null, .int 0, .null, .null, .long 0, .int 0, .int 0, .null, .null, .int 0, .int 0, .null, .int 0, .long 0]) (by decide) ((zu_ne _ _ (by decide)).trans (zu_same _ _ _)) rfl iX10 (by decide) fX10_17 rfl rfl rfl (tyX10_ok 5 (by decide)) rfl rfl (by simp) ?_
  refine b_aload_n 26 dX10_init_25 rfl rfl ?_
  refine b_sipush (v := 240) 29 dX10_init_26 rfl (by decide) ?_
  refine b_newI 31 240 dX10_init_29 rfl (by decide) (by decide) (by decide) (by decide) (by decide) ?_
  refine b_putF 34 tyX10 tyX10_ok nmX10 dX10_init_31 rfl (a := 102) (ci := 10) (j := 6) (fs := [.int 0, zr E 103, .int 0, .long 0, .long 1, zr E (104), .null, .null, .null, .null, .null, .null, .int 0, .int 0, .null, .null, .int 0, .null, .int 0, .null, .null, .null, .int 0, .null, .null, .null, .int 0, .null, .null, .long 0, .int 0, .int 0, .null, .null, .int 0, .int 0, .null, .int 0, .long 0]) (by decide) ((zu_ne _ _ (by decide)).trans (zu_same _ _ _)) rfl iX10 (by decide) fX10_20 rfl rfl rfl (tyX10_ok 6 (by decide)) rfl rfl (by simp) ?_
  refine b_aload_n 35 dX10_init_34 rfl rfl ?_
  refine b_bipush (v := 40) 37 dX10_init_35 rfl (by decide) ?_
  refine b_newI 39 40 dX10_init_37 rfl (by decide) (by decide) (by decide) (by decide) (by decide) ?_
  refine b_putF 42 tyX10 tyX10_ok nmX10 dX10_init_39 rfl (a := 102) (ci := 10) (j := 7) (fs := [.int 0, zr E 103, .int 0, .long 0, .long 1, zr E (104), zr E (105), .null, .null, .null, .null, .null, .int 0, .int 0, .null, .null, .int 0, .null, .int 0, .null, .null, .null, .int 0, .null, .null, .null, .int 0, .null, .null, .long 0, .int 0, .int 0, .null, .null, .int 0, .int 0, .null, .int 0, .long 0]) (by decide) ((zu_ne _ _ (by decide)).trans (zu_same _ _ _)) rfl iX10 (by decide) fX10_23 rfl rfl rfl (tyX10_ok 7 (by decide)) rfl rfl (by simp) ?_
  refine b_aload_n 43 dX10_init_42 rfl rfl ?_
  refine b_iconst (v := 4) 44 dX10_init_43 rfl (by decide) ?_
  refine b_newI 46 4 dX10_init_44 rfl (by decide) (by decide) (by decide) (by decide) (by decide) ?_
  refine b_putF 49 tyX10 tyX10_ok nmX10 dX10_init_46 rfl (a := 102) (ci := 10) (j := 8) (fs := [.int 0, zr E 103, .int 0, .long 0, .long 1, zr E (104), zr E (105), zr E (106), .null, .null, .null, .null, .int 0, .int 0, .null, .null, .int 0, .null, .int 0, .null, .null, .null, .int 0, .null, .null, .null, .int 0, .null, .null, .long 0, .int 0, .int 0, .null, .null, .int 0, .int 0, .null, .int 0, .long 0]) (by decide) ((zu_ne _ _ (by decide)).trans (zu_same _ _ _)) rfl iX10 (by decide) fX10_26 rfl rfl rfl (tyX10_ok 8 (by decide)) rfl rfl (by simp) ?_
  refine b_aload_n 50 dX10_init_49 rfl rfl ?_
  refine b_sipush (v := 480) 53 dX10_init_50 rfl (by decide) ?_
  refine b_newI 55 480 dX10_init_53 rfl (by decide) (by decide) (by decide) (by decide) (by decide) ?_
  refine b_putF 58 tyX10 tyX10_ok nmX10 dX10_init_55 rfl (a := 102) (ci := 10) (j := 9) (fs := [.int 0, zr E 103, .int 0, .long 0, .long 1, zr E (104), zr E (105), zr E (106), zr E (107), .null, .null, .null, .int 0, .int 0, .null, .null, .int 0, .null, .int 0, .null, .null, .null, .int 0, .null, .null, .null, .int 0, .null, .null, .long 0, .int 0, .int 0, .null, .null, .int 0, .int 0, .null, .int 0, .long 0]) (by decide) ((zu_ne _ _ (by decide)).trans (zu_same _ _ _)) rfl iX10 (by decide) fX10_29 rfl rfl rfl (tyX10_ok 9 (by decide)) rfl rfl (by simp) ?_
  refine b_aload_n 59 dX10_init_58 rfl rfl ?_
  refine b_iconst (v := 3) 60 dX10_init_59 rfl (by decide) ?_
  refine b_newI 62 3 dX10_init_60 rfl (by decide) (by decide) (by decide) (by decide) (by decide) ?_
  refine b_putF 65 tyX10 tyX10_ok nmX10 dX10_init_62 rfl (a := 102) (ci := 10) (j := 10) (fs := [.int 0, zr E 103, .int 0, .long 0, .long 1, zr E (104), zr E (105), zr E (106), zr E (107), zr E (108), .null, .null, .int 0, .int 0, .null, .null, .int 0, .null, .int 0, .null, .null, .null, .int 0, .null, .null, .null, .int 0, .null, .null, .long 0, .int 0, .int 0, .null, .null, .int 0, .int 0, .null, .int 0, .long 0]) (by decide) ((zu_ne _ _ (by decide)).trans (zu_same _ _ _)) rfl iX10 (by decide) fX10_32 rfl rfl rfl (tyX10_ok 10 (by decide)) rfl rfl (by simp) ?_
  refine b_aload_n 66 dX10_init_65 rfl rfl ?_
  refine b_sipush (v := 240) 69 dX10_init_66 rfl (by decide) ?_
  refine b_newI 71 240 dX10_init_69 rfl (by decide) (by decide) (by decide) (by decide) (by decide) ?_
  refine b_putF 74 tyX10 tyX10_ok nmX10 dX10_init_71 rfl (a := 102) (ci := 10) (j := 11) (fs := [.int 0, zr E 103, .int 0, .long 0, .long 1, zr E (104), zr E (105), zr E (106), zr E (107), zr E (108), zr E (109), .null, .int 0, .int 0, .null, .null, .int 0, .null, .int 0, .null, .null, .null, .int 0, .null, .null, .null, .int 0, .null, .null, .long 0, .int 0, .int 0, .null, .null, .int 0, .int 0, .null, .int 0, .long 0]) (by decide) ((zu_ne _ _ (by decide)).trans (zu_same _ _ _)) rfl iX10 (by decide) fX10_35 rfl rfl rfl (tyX10_ok 11 (by decide)) rfl rfl (by simp) ?_
  refine b_aload_n 75 dX10_init_74 rfl rfl ?_
  refine b_bipush (v := 36) 77 dX10_init_75 rfl (by decide) ?_
  refine b_newI 79 36 dX10_init_77 rfl (by decide) (by decide) (by decide) (by decide) (by decide) ?_
  refine b_putF 82 tyX10 tyX10_ok nmX10 dX10_init_79 rfl (a := 102) (ci := 10) (j := 14) (fs := [.int 0, zr E 103, .int 0, .long 0, .long 1, zr E (104), zr E (105), zr E (106), zr E (107), zr E (108), zr E (109), zr E (110), .int 0, .int 0, .null, .null, .int 0, .null, .int 0, .null, .null, .null, .int 0, .null, .null, .null, .int 0, .null, .null, .long 0, .int 0, .int 0, .null, .null, .int 0, .int 0, .null, .int 0, .long 0]) (by decide) ((zu_ne _ _ (by decide)).trans (zu_same _ _ _)) rfl iX10 (by decide) fX10_38 rfl rfl rfl (tyX10_ok 14 (by decide)) rfl rfl (by simp) ?_
  refine b_aload_n 83 dX10_init_82 rfl rfl ?_
  refine b_bipush (v := 6) 85 dX10_init_83 rfl (by decide) ?_
  refine b_newI 87 6 dX10_init_85 rfl (by decide) (by decide) (by decide) (by decide) (by decide) ?_
  refine b_putF 90 tyX10 tyX10_ok nmX10 dX10_init_87 rfl (a := 102) (ci := 10) (j := 15) (fs := [.int 0, zr E 103, .int 0, .long 0, .long 1, zr E (104), zr E (105), zr E (106), zr E (107), zr E (108), zr E (109), zr E (110), .int 0, .int 0, zr E (111), .null, .int 0, .null, .int 0, .null, .null, .null, .int 0, .null, .null, .null, .int 0, .null, .null, .long 0, .int 0, .int 0, .null, .null, .int 0, .int 0, .null, .int 0, .long 0]) (by decide) ((zu_ne _ _ (by decide)).trans (zu_same _ _ _)) rfl iX10 (by decide) fX10_41 rfl rfl rfl (tyX10_ok 15 (by decide)) rfl rfl (by simp) ?_
  refine b_aload_n 91 dX10_init_90 rfl rfl ?_
  refine b_bipush (v := 6) 93 dX10_init_91 rfl (by decide) ?_
  refine b_newI 95 6 dX10_init_93 rfl (by decide) (by decide) (by decide) (by decide) (by decide) ?_
  refine b_putF 98 tyX10 tyX10_ok nmX10 dX10_init_95 rfl (a := 102) (ci := 10) (j := 17) (fs := [.int 0, zr E 103, .int 0, .long 0, .long 1, zr E (104), zr E (105), zr E (106), zr E (107), zr E (108), zr E (109), zr E (110), .int 0, .int 0, zr E (111), zr E (112), .int 0, .null, .int 0, .null, .null, .null, .int 0, .null, .null, .null, .int 0, .null, .null, .long 0, .int 0, .int 0, .null, .null, .int 0, .int 0, .null, .int 0, .long 0]) (by decide) ((zu_ne _ _ (by decide)).trans (zu_same _ _ _)) rfl iX10 (by decide) fX10_44 rfl rfl rfl (tyX10_ok 17 (by decide)) rfl rfl (by simp) ?_
  refine b_aload_n 99 dX10_init_98 rfl rfl ?_
  refine b_bipush (v := 8) 101 dX10_init_99 rfl (by decide) ?_
  refine b_newI 103 8 dX10_init_101 rfl (by decide) (by decide) (by decide) (by decide) (by decide) ?_
  refine b_putF 106 tyX10 tyX10_ok nmX10 dX10_init_103 rfl (a := 102) (ci := 10) (j := 19) (fs := [.int 0, zr E 103, .int 0, .long 0, .long 1, zr E (104), zr E (105), zr E (106), zr E (107), zr E (108), zr E (109), zr E (110), .int 0, .int 0, zr E (111), zr E (112), .int 0, zr E (113), .int 0, .null, .null, .null, .int 0, .null, .null, .null, .int 0, .null, .null, .long 0, .int 0, .int 0, .null, .null, .int 0, .int 0, .null, .int 0, .long 0]) (by decide) ((zu_ne _ _ (by decide)).trans (zu_same _ _ _)) rfl iX10 (by decide) fX10_47 rfl rfl rfl (tyX10_ok 19 (by decide)) rfl rfl (by simp) ?_
  refine b_aload_n 107 dX10_init_106 rfl rfl ?_
  refine b_bipush (v := 8) 109 dX10_init_107 rfl (by decide) ?_
  refine b_newI 111 8 dX10_init_109 rfl (by decide) (by decide) (by decide) (by decide) (by decide) ?_
  refine b_putF 114 tyX10 tyX10_ok nmX10 dX10_init_111 rfl (a := 102) (ci := 10) (j := 20) (fs := [.int 0, zr E 103, .int 0, .long 0, .long 1, zr E (104), zr E (105), zr E (106), zr E (107), zr E (108), zr E (109), zr E (110), .int 0, .int 0, zr E (111), zr E (112), .int 0, zr E (113), .int 0, zr E (114), .null, .null, .int 0, .null, .null, .null, .int 0, .null, .null, .long 0, .int 0, .int 0, .null, .null, .int 0, .int 0, .null, .int 0, .long 0]) (by decide) ((zu_ne _ _ (by decide)).trans (zu_same _ _ _)) rfl iX10 (by decide) fX10_50 rfl rfl rfl (tyX10_ok 20 (by decide)) rfl rfl (by simp) ?_
  refine b_aload_n 115 dX10_init_114 rfl rfl ?_
  refine b_bipush (v := 8) 117 dX10_init_115 rfl (by decide) ?_
  refine b_newI 119 8 dX10_init_117 rfl (by decide) (by decide) (by decide) (by decide) (by decide) ?_
  refine b_putF 122 tyX10 tyX10_ok nmX10 dX10_init_119 rfl (a := 102) (ci := 10) (j := 21) (fs := [.int 0, zr E 103, .int 0, .long 0, .long 1, zr E (104), zr E (105), zr E (106), zr E (107), zr E (108), zr E (109), zr E (110), .int 0, .int 0, zr E (111), zr E (112), .int 0, zr E (113), .int 0, zr E (114), zr E (115), .null, .int 0, .null, .null, .null, .int 0, .null, .null, .long 0, .int 0, .int 0, .null, .null, .int 0, .int 0, .null, .int 0, .long 0]) (by decide) ((zu_ne _ _ (by decide)).trans (zu_same _ _ _)) rfl iX10 (by decide) fX10_53 rfl rfl rfl (tyX10_ok 21 (by decide)) rfl rfl (by simp) ?_
  refine b_aload_n 123 dX10_init_122 rfl rfl ?_
  refine b_bipush (v := 8) 125 dX10_init_123 rfl (by decide) ?_
  refine b_newL 127 8 dX10_init_125 rfl (by decide) (by decide) (by decide) (by decide) (by decide) ?_
  refine b_putF 130 tyX10 tyX10_ok nmX10 dX10_init_127 rfl (a := 102) (ci := 10) (j := 23) (fs := [.int 0, zr E 103, .int 0, .long 0, .long 1, zr E (104), zr E (105), zr E (106), zr E (107), zr E (108), zr E (109), zr E (110), .int 0, .int 0, zr E (111), zr E (112), .int 0, zr E (113), .int 0, zr E (114), zr E (115), zr E (116), .int 0, .null, .null, .null, .int 0, .null, .null, .long 0, .int 0, .int 0, .null, .null, .int 0, .int 0, .null, .int 0, .long 0]) (by decide) ((zu_ne _ _ (by decide)).trans (zu_same _ _ _)) rfl iX10 (by decide) fX10_56 rfl rfl rfl (tyX10_ok 23 (by decide)) rfl rfl (by simp) ?_
  refine b_aload_n 131 dX10_init_130 rfl rfl ?_
  refine b_bipush (v := 8) 133 dX10_init_131 rfl (by decide) ?_
  refine b_newL 135 8 dX10_init_133 rfl (by decide) (by decide) (by decide) (by decide) (by decide) ?_
  refine b_putF 138 tyX10 tyX10_ok nmX10 dX10_init_135 rfl (a := 102) (ci := 10) (j := 24) (fs := [.int 0, zr E 103, .int 0, .long 0, .long 1, zr E (104), zr E (105), zr E (106), zr E (107), zr E (108), zr E (109), zr E (110), .int 0, .int 0, zr E (111), zr E (112), .int 0, zr E (113), .int 0, zr E (114), zr E (115), zr E (116), .int 0, zr E (117), .null, .null, .int 0, .null, .null, .long 0, .int 0, .int 0, .null, .null, .int 0, .int 0, .null, .int 0, .long 0]) (by decide) ((zu_ne _ _ (by decide)).trans (zu_same _ _ _)) rfl iX10 (by decide) fX10_60 rfl rfl rfl (tyX10_ok 24 (by decide)) rfl rfl (by simp) ?_
  refine b_aload_n 139 dX10_init_138 rfl rfl ?_
  refine b_bipush (v := 8) 141 dX10_init_139 rfl (by decide) ?_
  refine b_newL 143 8 dX10_init_141 rfl (by decide) (by decide) (by decide) (by decide) (by decide) ?_
  refine b_putF 146 tyX10 tyX10_ok nmX10 dX10_init_143 rfl (a := 102) (ci := 10) (j := 25) (fs := [.int 0, zr E 103, .int 0, .long 0, .long 1, zr E (104), zr E (105), zr E (106), zr E (107), zr E (108), zr E (109), zr E (110), .int 0, .int 0, zr E (111), zr E (112), .int 0, zr E (113), .int 0, zr E (114), zr E (115), zr E (116), .int 0, zr E (117), zr E (118), .null, .int 0, .null, .null, .long 0, .int 0, .int 0, .null, .null, .int 0, .int 0, .null, .int 0, .long 0]) (by decide) ((zu_ne _ _ (by decide)).trans (zu_same _ _ _)) rfl iX10 (by decide) fX10_63 rfl rfl rfl (tyX10_ok 25 (by decide)) rfl rfl (by simp) ?_
  refine b_aload_n 147 dX10_init_146 rfl rfl ?_
  refine b_bipush (v := 8) 149 dX10_init_147 rfl (by decide) ?_
  refine b_newI 151 8 dX10_init_149 rfl (by decide) (by decide) (by decide) (by decide) (by decide) ?_
  refine b_putF 154 tyX10 tyX10_ok nmX10 dX10_init_151 rfl (a := 102) (ci := 10) (j := 27) (fs := [.int 0, zr E 103, .int 0, .long 0, .long 1, zr E (104), zr E (105), zr E (106), zr E (107), zr E (108), zr E (109), zr E (110), .int 0, .int 0, zr E (111), zr E (112), .int 0, zr E (113), .int 0, zr E (114), zr E (115), zr E (116), .int 0, zr E (117), zr E (118), zr E (119), .int 0, .null, .null, .long 0, .int 0, .int 0, .null, .null, .int 0, .int 0, .null, .int 0, .long 0]) (by decide) ((zu_ne _ _ (by decide)).trans (zu_same _ _ _)) rfl iX10 (by decide) fX10_66 rfl rfl rfl (tyX10_ok 27 (by decide)) rfl rfl (by simp) ?_
  refine b_aload_n 155 dX10_init_154 rfl rfl ?_
  refine b_bipush (v := 8) 157 dX10_init_155 rfl (by decide) ?_
  refine b_newI 159 8 dX10_init_157 rfl (by decide) (by decide) (by decide) (by decide) (by decide) ?_
  refine b_putF 162 tyX10 tyX10_ok nmX10 dX10_init_159 rfl (a := 102) (ci := 10) (j := 28) (fs := [.int 0, zr E 103, .int 0, .long 0, .long 1, zr E (104), zr E (105), zr E (106), zr E (107), zr E (108), zr E (109), zr E (110), .int 0, .int 0, zr E (111), zr E (112), .int 0, zr E (113), .int 0, zr E (114), zr E (115), zr E (116), .int 0, zr E (117), zr E (118), zr E (119), .int 0, zr E (120), .null, .long 0, .int 0, .int 0, .null, .null, .int 0, .int 0, .null, .int 0, .long 0]) (by decide) ((zu_ne _ _ (by decide)).trans (zu_same _ _ _)) rfl iX10 (by decide) fX10_69 rfl rfl rfl (tyX10_ok 28 (by decide)) rfl rfl (by simp) ?_
  refine b_aload_n 163 dX10_init_162 rfl rfl ?_
  refine b_bipush (v := 6) 165 dX10_init_163 rfl (by decide) ?_
  refine b_newI 167 6 dX10_init_165 rfl (by decide) (by decide) (by decide) (by decide) (by decide) ?_
  refine b_putF 170 tyX10 tyX10_ok nmX10 dX10_init_167 rfl (a := 102) (ci := 10) (j := 32) (fs := [.int 0, zr E 103, .int 0, .long 0, .long 1, zr E (104), zr E (105), zr E (106), zr E (107), zr E (108), zr E (109), zr E (110), .int 0, .int 0, zr E (111), zr E (112), .int 0, zr E (113), .int 0, zr E (114), zr E (115), zr E (116), .int 0, zr E (117), zr E (118), zr E (119), .int 0, zr E (120), zr E (121), .long 0, .int 0, .int 0, .null, .null, .int 0, .int 0, .null, .int 0, .long 0]) (by decide) ((zu_ne _ _ (by decide)).trans (zu_same _ _ _)) rfl iX10 (by decide) fX10_72 rfl rfl rfl (tyX10_ok 32 (by decide)) rfl rfl (by simp) ?_
  refine b_aload_n 171 dX10_init_170 rfl rfl ?_
  refine b_bipush (v := 6) 173 dX10_init_171 rfl (by decide) ?_
  refine b_newI 175 6 dX10_init_173 rfl (by decide) (by decide) (by decide) (by decide) (by decide) ?_
  refine b_putF 178 tyX10 tyX10_ok nmX10 dX10_init_175 rfl (a := 102) (ci := 10) (j := 33) (fs := [.int 0, zr E 103, .int 0, .long 0, .long 1, zr E (104), zr E (105), zr E (106), zr E (107), zr E (108), zr E (109), zr E (110), .int 0, .int 0, zr E (111), zr E (112), .int 0, zr E (113), .int 0, zr E (114), zr E (115), zr E (116), .int 0, zr E (117), zr E (118), zr E (119), .int 0, zr E (120), zr E (121), .long 0, .int 0, .int 0, zr E (122), .null, .int 0, .int 0, .null, .int 0, .long 0]) (by decide) ((zu_ne _ _ (by decide)).trans (zu_same _ _ _)) rfl iX10 (by decide) fX10_75 rfl rfl rfl (tyX10_ok 33 (by decide)) rfl rfl (by simp) ?_
  refine b_aload_n 179 dX10_init_178 rfl rfl ?_
  refine b_sipush (v := 144) 182 dX10_init_179 rfl (by decide) ?_
  refine b_newI 184 144 dX10_init_182 rfl (by decide) (by decide) (by decide) (by decide) (by decide) ?_
  refine b_putF 187 tyX10 tyX10_ok nmX10 dX10_init_184 rfl (a := 102) (ci := 10) (j := 36) (fs := [.int 0, zr E 103, .int 0, .long 0, .long 1, zr E (104), zr E (105), zr E (106), zr E (107), zr E (108), zr E (109), zr E (110), .int 0, .int 0, zr E (111), zr E (112), .int 0, zr E (113), .int 0, zr E (114), zr E (115), zr E (116), .int 0, zr E (117), zr E (118), zr E (119), .int 0, zr E (120), zr E (121), .long 0, .int 0, .int 0, zr E (122), zr E (123), .int 0, .int 0, .null, .int 0, .long 0]) (by decide) ((zu_ne _ _ (by decide)).trans (zu_same _ _ _)) rfl iX10 (by decide) fX10_78 rfl rfl rfl (tyX10_ok 36 (by decide)) rfl rfl (by simp) ?_
  refine b_le (mW E 0 0) (wle.eq fun k hk => ?_) ?_
  · rcases Nat.lt_or_ge k 102 with q | q
    · rw [mW_ne (by omega) (by omega)]
      exact ((zu_ne _ _ (by omega)).trans ((zu_ne _ _ (by omega)).trans ((zu_ne _ _ (by omega)).trans ((zu_ne _ _ (by omega)).trans ((zu_ne _ _ (by omega)).trans ((zu_ne _ _ (by omega)).trans ((zu_ne _ _ (by omega)).trans ((zu_ne _ _ (by omega)).trans ((zu_ne _ _ (by omega)).trans ((zu_ne _ _ (by omega)).trans ((zu_ne _ _ (by omega)).trans ((zu_ne _ _ (by omega)).trans ((zu_ne _ _ (by omega)).trans ((zu_ne _ _ (by omega)).trans ((zu_ne _ _ (by omega)).trans ((zu_ne _ _ (by omega)).trans ((zu_ne _ _ (by omega)).trans ((zu_ne _ _ (by omega)).trans ((zu_ne _ _ (by omega)).trans ((zu_ne _ _ (by omega)).trans ((zu_ne _ _ (by omega)).trans ((zu_ne _ _ (by omega)).trans ((zu_ne _ _ (by omega)).trans ((zu_ne _ _ (by omega)).trans ((zu_ne _ _ (by omega)).trans ((zu_ne _ _ (by omega)).trans ((zu_ne _ _ (by omega)).trans ((zu_ne _ _ (by omega)).trans ((zu_ne _ _ (by omega)).trans ((zu_ne _ _ (by omega)).trans ((zu_ne _ _ (by omega)).trans ((zu_ne _ _ (by omega)).trans ((zu_ne _ _ (by omega)).trans ((zu_ne _ _ (by omega)).trans ((zu_ne _ _ (by omega)).trans ((zu_ne _ _ (by omega)).trans ((zu_ne _ _ (by omega)).trans ((zu_ne _ _ (by omega)).trans ((zu_ne _ _ (by omega)).trans ((zu_ne _ _ (by omega)).trans ((zu_ne _ _ (by omega)).trans ((zu_ne _ _ (by omega)).trans ((zu_ne _ _ (by omega)).trans ((zu_ne _ _ (by omega)).trans ((zu_ne _ _ (by omega)).trans (hz k q))))))))))))))))))))))))))))))))))))))))))))))
    · rcases (by omega : k = 102 ∨ k = 103 ∨ k = 104 ∨ k = 105 ∨ k = 106 ∨ k = 107 ∨ k = 108 ∨ k = 109 ∨ k = 110 ∨ k = 111 ∨ k = 112 ∨ k = 113 ∨ k = 114 ∨ k = 115 ∨ k = 116 ∨ k = 117 ∨ k = 118 ∨ k = 119 ∨ k = 120 ∨ k = 121 ∨ k = 122 ∨ k = 123 ∨ k = 124) with rfl | rfl | rfl | rfl | rfl | rfl | rfl | rfl | rfl | rfl | rfl | rfl | rfl | rfl | rfl | rfl | rfl | rfl | rfl | rfl | rfl | rfl | rfl
      · exact (zu_same _ _ _)
      · exact ((zu_ne _ _ (by decide)).trans ((zu_ne _ _ (by decide)).trans ((zu_ne _ _ (by decide)).trans ((zu_ne _ _ (by decide)).trans ((zu_ne _ _ (by decide)).trans ((zu_ne _ _ (by decide)).trans ((zu_ne _ _ (by decide)).trans ((zu_ne _ _ (by decide)).trans ((zu_ne _ _ (by decide)).trans ((zu_ne _ _ (by decide)).trans ((zu_ne _ _ (by decide)).trans ((zu_ne _ _ (by decide)).trans ((zu_ne _ _ (by decide)).trans ((zu_ne _ _ (by decide)).trans ((zu_ne _ _ (by decide)).trans ((zu_ne _ _ (by decide)).trans ((zu_ne _ _ (by decide)).trans ((zu_ne _ _ (by decide)).trans ((zu_ne _ _ (by decide)).trans ((zu_ne _ _ (by decide)).trans ((zu_ne _ _ (by decide)).trans ((zu_ne _ _ (by decide)).trans ((zu_ne _ _ (by decide)).trans ((zu_ne _ _ (by decide)).trans ((zu_ne _ _ (by decide)).trans ((zu_ne _ _ (by decide)).trans ((zu_ne _ _ (by decide)).trans ((zu_ne _ _ (by decide)).trans ((zu_ne _ _ (by decide)).trans ((zu_ne _ _ (by decide)).trans ((zu_ne _ _ (by decide)).trans ((zu_ne _ _ (by decide)).trans ((zu_ne _ _ (by decide)).trans ((zu_ne _ _ (by decide)).trans ((zu_ne _ _ (by decide)).trans ((zu_ne _ _ (by decide)).trans ((zu_ne _ _ (by decide)).trans ((zu_ne _ _ (by decide)).trans ((zu_ne _ _ (by decide)).trans ((zu_ne _ _ (by decide)).trans ((zu_ne _ _ (by decide)).trans ((zu_ne _ _ (by decide)).trans ((zu_ne _ _ (by decide)).trans ((zu_ne _ _ (by decide)).trans (zu_same _ _ _)))))))))))))))))))))))))))))))))))))))))))))
      · exact ((zu_ne _ _ (by decide)).trans ((zu_ne _ _ (by decide)).trans ((zu_ne _ _ (by decide)).trans ((zu_ne _ _ (by decide)).trans ((zu_ne _ _ (by decide)).trans ((zu_ne _ _ (by decide)).trans ((zu_ne _ _ (by decide)).trans ((zu_ne _ _ (by decide)).trans ((zu_ne _ _ (by decide)).trans ((zu_ne _ _ (by decide)).trans ((zu_ne _ _ (by decide)).trans ((zu_ne _ _ (by decide)).trans ((zu_ne _ _ (by decide)).trans ((zu_ne _ _ (by decide)).trans ((zu_ne _ _ (by decide)).trans ((zu_ne _ _ (by decide)).trans ((zu_ne _ _ (by decide)).trans ((zu_ne _ _ (by decide)).trans ((zu_ne _ _ (by decide)).trans ((zu_ne _ _ (by decide)).trans ((zu_ne _ _ (by decide)).trans ((zu_ne _ _ (by decide)).trans ((zu_ne _ _ (by decide)).trans ((zu_ne _ _ (by decide)).trans ((zu_ne _ _ (by decide)).trans ((zu_ne _ _ (by decide)).trans ((zu_ne _ _ (by decide)).trans ((zu_ne _ _ (by decide)).trans ((zu_ne _ _ (by decide)).trans ((zu_ne _ _ (by decide)).trans ((zu_ne _ _ (by decide)).trans ((zu_ne _ _ (by decide)).trans ((zu_ne _ _ (by decide)).trans ((zu_ne _ _ (by decide)).trans ((zu_ne _ _ (by decide)).trans ((zu_ne _ _ (by decide)).trans ((zu_ne _ _ (by decide)).trans ((zu_ne _ _ (by decide)).trans ((zu_ne _ _ (by decide)).trans ((zu_ne _ _ (by decide)).trans ((zu_ne _ _ (by decide)).trans (zu_same _ _ _)))))))))))))))))))))))))))))))))))))))))).trans (by show _ = Sum.inl (_, _, Sum.inl (fun j => if j < 0 then (-9 : Int32) else 0)); congr 3)
      · exact ((zu_ne _ _ (by decide)).trans ((zu_ne _ _ (by decide)).trans ((zu_ne _ _ (by decide)).trans ((zu_ne _ _ (by decide)).trans ((zu_ne _ _ (by decide)).trans ((zu_ne _ _ (by decide)).trans ((zu_ne _ _ (by decide)).trans ((zu_ne _ _ (by decide)).trans ((zu_ne _ _ (by decide)).trans ((zu_ne _ _ (by decide)).trans ((zu_ne _ _ (by decide)).trans ((zu_ne _ _ (by decide)).trans ((zu_ne _ _ (by decide)).trans ((zu_ne _ _ (by decide)).trans ((zu_ne _ _ (by decide)).trans ((zu_ne _ _ (by decide)).trans ((zu_ne _ _ (by decide)).trans ((zu_ne _ _ (by decide)).trans ((zu_ne _ _ (by decide)).trans ((zu_ne _ _ (by decide)).trans ((zu_ne _ _ (by decide)).trans ((zu_ne _ _ (by decide)).trans ((zu_ne _ _ (by decide)).trans ((zu_ne _ _ (by decide)).trans ((zu_ne _ _ (by decide)).trans ((zu_ne _ _ (by decide)).trans ((zu_ne _ _ (by decide)).trans ((zu_ne _ _ (by decide)).trans ((zu_ne _ _ (by decide)).trans ((zu_ne _ _ (by decide)).trans ((zu_ne _ _ (by decide)).trans ((zu_ne _ _ (by decide)).trans ((zu_ne _ _ (by decide)).trans ((zu_ne _ _ (by decide)).trans ((zu_ne _ _ (by decide)).trans ((zu_ne _ _ (by decide)).trans ((zu_ne _ _ (by decide)).trans ((zu_ne _ _ (by decide)).trans ((zu_ne _ _ (by decide)).trans (zu_same _ _ _))))))))))))))))))))))))))))))))))))))))
      · exact ((zu_ne _ _ (by decide)).trans ((zu_ne _ _ (by decide)).trans ((zu_ne _ _ (by decide)).trans ((zu_ne _ _ (by decide)).trans ((zu_ne _ _ (by decide)).trans ((zu_ne _ _ (by decide)).trans ((zu_ne _ _ (by decide)).trans ((zu_ne _ _ (by decide)).trans ((zu_ne _ _ (by decide)).trans ((zu_ne _ _ (by decide)).trans ((zu_ne _ _ (by decide)).trans ((zu_ne _ _ (by decide)).trans ((zu_ne _ _ (by decide)).trans ((zu_ne _ _ (by decide)).trans ((zu_ne _ _ (by decide)).trans ((zu_ne _ _ (by decide)).trans ((zu_ne _ _ (by decide)).trans ((zu_ne _ _ (by decide)).trans ((zu_ne _ _ (by decide)).trans ((zu_ne _ _ (by decide)).trans ((zu_ne _ _ (by decide)).trans ((zu_ne _ _ (by decide)).trans ((zu_ne _ _ (by decide)).trans ((zu_ne _ _ (by decide)).trans ((zu_ne _ _ (by decide)).trans ((zu_ne _ _ (by decide)).trans ((zu_ne _ _ (by decide)).trans ((zu_ne _ _ (by decide)).trans ((zu_ne _ _ (by decide)).trans ((zu_ne _ _ (by decide)).trans ((zu_ne _ _ (by decide)).trans ((zu_ne _ _ (by decide)).trans ((zu_ne _ _ (by decide)).trans ((zu_ne _ _ (by decide)).trans ((zu_ne _ _ (by decide)).trans ((zu_ne _ _ (by decide)).trans ((zu_ne _ _ (by decide)).trans (zu_same _ _ _))))))))))))))))))))))))))))))))))))))
      · exact ((zu_ne _ _ (by decide)).trans ((zu_ne _ _ (by decide)).trans ((zu_ne _ _ (by decide)).trans ((zu_ne _ _ (by decide)).trans ((zu_ne _ _ (by decide)).trans ((zu_ne _ _ (by decide)).trans ((zu_ne _ _ (by decide)).trans ((zu_ne _ _ (by decide)).trans ((zu_ne _ _ (by decide)).trans ((zu_ne _ _ (by decide)).trans ((zu_ne _ _ (by decide)).trans ((zu_ne _ _ (by decide)).trans ((zu_ne _ _ (by decide)).trans ((zu_ne _ _ (by decide)).trans ((zu_ne _ _ (by decide)).trans ((zu_ne _ _ (by decide)).trans ((zu_ne _ _ (by decide)).trans ((zu_ne _ _ (by decide)).trans ((zu_ne _ _ (by decide)).trans ((zu_ne _ _ (by decide)).trans ((zu_ne _ _ (by decide)).trans ((zu_ne _ _ (by decide)).trans ((zu_ne _ _ (by decide)).trans ((zu_ne _ _ (by decide)).trans ((zu_ne _ _ (by decide)).trans ((zu_ne _ _ (by decide)).trans ((zu_ne _ _ (by decide)).trans ((zu_ne _ _ (by decide)).trans ((zu_ne _ _ (by decide)).trans ((zu_ne _ _ (by decide)).trans ((zu_ne _ _ (by decide)).trans ((zu_ne _ _ (by decide)).trans ((zu_ne _ _ (by decide)).trans ((zu_ne _ _ (by decide)).trans ((zu_ne _ _ (by decide)).trans (zu_same _ _ _)))))))))))))))))))))))))))))))))))).trans (by show _ = Sum.inl (_, _, Sum.inl (fun j => if j < 0 then (-9 : Int32) else 0)); congr 3)
      · exact ((zu_ne _ _ (by decide)).trans ((zu_ne _ _ (by decide)).trans ((zu_ne _ _ (by decide)).trans ((zu_ne _ _ (by decide)).trans ((zu_ne _ _ (by decide)).trans ((zu_ne _ _ (by decide)).trans ((zu_ne _ _ (by decide)).trans ((zu_ne _ _ (by decide)).trans ((zu_ne _ _ (by decide)).trans ((zu_ne _ _ (by decide)).trans ((zu_ne _ _ (by decide)).trans ((zu_ne _ _ (by decide)).trans ((zu_ne _ _ (by decide)).trans ((zu_ne _ _ (by decide)).trans ((zu_ne _ _ (by decide)).trans ((zu_ne _ _ (by decide)).trans ((zu_ne _ _ (by decide)).trans ((zu_ne _ _ (by decide)).trans ((zu_ne _ _ (by decide)).trans ((zu_ne _ _ (by decide)).trans ((zu_ne _ _ (by decide)).trans ((zu_ne _ _ (by decide)).trans ((zu_ne _ _ (by decide)).trans ((zu_ne _ _ (by decide)).trans ((zu_ne _ _ (by decide)).trans ((zu_ne _ _ (by decide)).trans ((zu_ne _ _ (by decide)).trans ((zu_ne _ _ (by decide)).trans ((zu_ne _ _ (by decide)).trans ((zu_ne _ _ (by decide)).trans ((zu_ne _ _ (by decide)).trans ((zu_ne _ _ (by decide)).trans ((zu_ne _ _ (by decide)).trans (zu_same _ _ _))))))))))))))))))))))))))))))))))
      · exact ((zu_ne _ _ (by decide)).trans ((zu_ne _ _ (by decide)).trans ((zu_ne _ _ (by decide)).trans ((zu_ne _ _ (by decide)).trans ((zu_ne _ _ (by decide)).trans ((zu_ne _ _ (by decide)).trans ((zu_ne _ _ (by decide)).trans ((zu_ne _ _ (by decide)).trans ((zu_ne _ _ (by decide)).trans ((zu_ne _ _ (by decide)).trans ((zu_ne _ _ (by decide)).trans ((zu_ne _ _ (by decide)).trans ((zu_ne _ _ (by decide)).trans ((zu_ne _ _ (by decide)).trans ((zu_ne _ _ (by decide)).trans ((zu_ne _ _ (by decide)).trans ((zu_ne _ _ (by decide)).trans ((zu_ne _ _ (by decide)).trans ((zu_ne _ _ (by decide)).trans ((zu_ne _ _ (by decide)).trans ((zu_ne _ _ (by decide)).trans ((zu_ne _ _ (by decide)).trans ((zu_ne _ _ (by decide)).trans ((zu_ne _ _ (by decide)).trans ((zu_ne _ _ (by decide)).trans ((zu_ne _ _ (by decide)).trans ((zu_ne _ _ (by decide)).trans ((zu_ne _ _ (by decide)).trans ((zu_ne _ _ (by decide)).trans ((zu_ne _ _ (by decide)).trans ((zu_ne _ _ (by decide)).trans (zu_same _ _ _))))))))))))))))))))))))))))))))
      · exact ((zu_ne _ _ (by decide)).trans ((zu_ne _ _ (by decide)).trans ((zu_ne _ _ (by decide)).trans ((zu_ne _ _ (by decide)).trans ((zu_ne _ _ (by decide)).trans ((zu_ne _ _ (by decide)).trans ((zu_ne _ _ (by decide)).trans ((zu_ne _ _ (by decide)).trans ((zu_ne _ _ (by decide)).trans ((zu_ne _ _ (by decide)).trans ((zu_ne _ _ (by decide)).trans ((zu_ne _ _ (by decide)).trans ((zu_ne _ _ (by decide)).trans ((zu_ne _ _ (by decide)).trans ((zu_ne _ _ (by decide)).trans ((zu_ne _ _ (by decide)).trans ((zu_ne _ _ (by decide)).trans ((zu_ne _ _ (by decide)).trans ((zu_ne _ _ (by decide)).trans ((zu_ne _ _ (by decide)).trans ((zu_ne _ _ (by decide)).trans ((zu_ne _ _ (by decide)).trans ((zu_ne _ _ (by decide)).trans ((zu_ne _ _ (by decide)).trans ((zu_ne _ _ (by decide)).trans ((zu_ne _ _ (by decide)).trans ((zu_ne _ _ (by decide)).trans ((zu_ne _ _ (by decide)).trans ((zu_ne _ _ (by decide)).trans (zu_same _ _ _))))))))))))))))))))))))))))))
      · exact ((zu_ne _ _ (by decide)).trans ((zu_ne _ _ (by decide)).trans ((zu_ne _ _ (by decide)).trans ((zu_ne _ _ (by decide)).trans ((zu_ne _ _ (by decide)).trans ((zu_ne _ _ (by decide)).trans ((zu_ne _ _ (by decide)).trans ((zu_ne _ _ (by decide)).trans ((zu_ne _ _ (by decide)).trans ((zu_ne _ _ (by decide)).trans ((zu_ne _ _ (by decide)).trans ((zu_ne _ _ (by decide)).trans ((zu_ne _ _ (by decide)).trans ((zu_ne _ _ (by decide)).trans ((zu_ne _ _ (by decide)).trans ((zu_ne _ _ (by decide)).trans ((zu_ne _ _ (by decide)).trans ((zu_ne _ _ (by decide)).trans ((zu_ne _ _ (by decide)).trans ((zu_ne _ _ (by decide)).trans ((zu_ne _ _ (by decide)).trans ((zu_ne _ _ (by decide)).trans ((zu_ne _ _ (by decide)).trans ((zu_ne _ _ (by decide)).trans ((zu_ne _ _ (by decide)).trans ((zu_ne _ _ (by decide)).trans ((zu_ne _ _ (by decide)).trans (zu_same _ _ _))))))))))))))))))))))))))))
      · exact ((zu_ne _ _ (by decide)).trans ((zu_ne _ _ (by decide)).trans ((zu_ne _ _ (by decide)).trans ((zu_ne _ _ (by decide)).trans ((zu_ne _ _ (by decide)).trans ((zu_ne _ _ (by decide)).trans ((zu_ne _ _ (by decide)).trans ((zu_ne _ _ (by decide)).trans ((zu_ne _ _ (by decide)).trans ((zu_ne _ _ (by decide)).trans ((zu_ne _ _ (by decide)).trans ((zu_ne _ _ (by decide)).trans ((zu_ne _ _ (by decide)).trans ((zu_ne _ _ (by decide)).trans ((zu_ne _ _ (by decide)).trans ((zu_ne _ _ (by decide)).trans ((zu_ne _ _ (by decide)).trans ((zu_ne _ _ (by decide)).trans ((zu_ne _ _ (by decide)).trans ((zu_ne _ _ (by decide)).trans ((zu_ne _ _ (by decide)).trans ((zu_ne _ _ (by decide)).trans ((zu_ne _ _ (by decide)).trans ((zu_ne _ _ (by decide)).trans ((zu_ne _ _ (by decide)).trans (zu_same _ _ _))))))))))))))))))))))))))
      · exact ((zu_ne _ _ (by decide)).trans ((zu_ne _ _ (by decide)).trans ((zu_ne _ _ (by decide)).trans ((zu_ne _ _ (by decide)).trans ((zu_ne _ _ (by decide)).trans ((zu_ne _ _ (by decide)).trans ((zu_ne _ _ (by decide)).trans ((zu_ne _ _ (by decide)).trans ((zu_ne _ _ (by decide)).trans ((zu_ne _ _ (by decide)).trans ((zu_ne _ _ (by decide)).trans ((zu_ne _ _ (by decide)).trans ((zu_ne _ _ (by decide)).trans ((zu_ne _ _ (by decide)).trans ((zu_ne _ _ (by decide)).trans ((zu_ne _ _ (by decide)).trans ((zu_ne _ _ (by decide)).trans ((zu_ne _ _ (by decide)).trans ((zu_ne _ _ (by decide)).trans ((zu_ne _ _ (by decide)).trans ((zu_ne _ _ (by decide)).trans ((zu_ne _ _ (by decide)).trans ((zu_ne _ _ (by decide)).trans (zu_same _ _ _))))))))))))))))))))))))
      · exact ((zu_ne _ _ (by decide)).trans ((zu_ne _ _ (by decide)).trans ((zu_ne _ _ (by decide)).trans ((zu_ne _ _ (by decide)).trans ((zu_ne _ _ (by decide)).trans ((zu_ne _ _ (by decide)).trans ((zu_ne _ _ (by decide)).trans ((zu_ne _ _ (by decide)).trans ((zu_ne _ _ (by decide)).trans ((zu_ne _ _ (by decide)).trans ((zu_ne _ _ (by decide)).trans ((zu_ne _ _ (by decide)).trans ((zu_ne _ _ (by decide)).trans ((zu_ne _ _ (by decide)).trans ((zu_ne _ _ (by decide)).trans ((zu_ne _ _ (by decide)).trans ((zu_ne _ _ (by decide)).trans ((zu_ne _ _ (by decide)).trans ((zu_ne _ _ (by decide)).trans ((zu_ne _ _ (by decide)).trans ((zu_ne _ _ (by decide)).trans (zu_same _ _ _))))))))))))))))))))))
      · exact ((zu_ne _ _ (by decide)).trans ((zu_ne _ _ (by decide)).trans ((zu_ne _ _ (by decide)).trans ((zu_ne _ _ (by decide)).trans ((zu_ne _ _ (by decide)).trans ((zu_ne _ _ (by decide)).trans ((zu_ne _ _ (by decide)).trans ((zu_ne _ _ (by decide)).trans ((zu_ne _ _ (by decide)).trans ((zu_ne _ _ (by decide)).trans ((zu_ne _ _ (by decide)).trans ((zu_ne _ _ (by decide)).trans ((zu_ne _ _ (by decide)).trans ((zu_ne _ _ (by decide)).trans ((zu_ne _ _ (by decide)).trans ((zu_ne _ _ (by decide)).trans ((zu_ne _ _ (by decide)).trans ((zu_ne _ _ (by decide)).trans ((zu_ne _ _ (by decide)).trans (zu_same _ _ _))))))))))))))))))))
      · exact ((zu_ne _ _ (by decide)).trans ((zu_ne _ _ (by decide)).trans ((zu_ne _ _ (by decide)).trans ((zu_ne _ _ (by decide)).trans ((zu_ne _ _ (by decide)).trans ((zu_ne _ _ (by decide)).trans ((zu_ne _ _ (by decide)).trans ((zu_ne _ _ (by decide)).trans ((zu_ne _ _ (by decide)).trans ((zu_ne _ _ (by decide)).trans ((zu_ne _ _ (by decide)).trans ((zu_ne _ _ (by decide)).trans ((zu_ne _ _ (by decide)).trans ((zu_ne _ _ (by decide)).trans ((zu_ne _ _ (by decide)).trans ((zu_ne _ _ (by decide)).trans ((zu_ne _ _ (by decide)).trans (zu_same _ _ _))))))))))))))))))
      · exact ((zu_ne _ _ (by decide)).trans ((zu_ne _ _ (by decide)).trans ((zu_ne _ _ (by decide)).trans ((zu_ne _ _ (by decide)).trans ((zu_ne _ _ (by decide)).trans ((zu_ne _ _ (by decide)).trans ((zu_ne _ _ (by decide)).trans ((zu_ne _ _ (by decide)).trans ((zu_ne _ _ (by decide)).trans ((zu_ne _ _ (by decide)).trans ((zu_ne _ _ (by decide)).trans ((zu_ne _ _ (by decide)).trans ((zu_ne _ _ (by decide)).trans ((zu_ne _ _ (by decide)).trans ((zu_ne _ _ (by decide)).trans (zu_same _ _ _))))))))))))))))
      · exact ((zu_ne _ _ (by decide)).trans ((zu_ne _ _ (by decide)).trans ((zu_ne _ _ (by decide)).trans ((zu_ne _ _ (by decide)).trans ((zu_ne _ _ (by decide)).trans ((zu_ne _ _ (by decide)).trans ((zu_ne _ _ (by decide)).trans ((zu_ne _ _ (by decide)).trans ((zu_ne _ _ (by decide)).trans ((zu_ne _ _ (by decide)).trans ((zu_ne _ _ (by decide)).trans ((zu_ne _ _ (by decide)).trans ((zu_ne _ _ (by decide)).trans (zu_same _ _ _))))))))))))))
      · exact ((zu_ne _ _ (by decide)).trans ((zu_ne _ _ (by decide)).trans ((zu_ne _ _ (by decide)).trans ((zu_ne _ _ (by decide)).trans ((zu_ne _ _ (by decide)).trans ((zu_ne _ _ (by decide)).trans ((zu_ne _ _ (by decide)).trans ((zu_ne _ _ (by decide)).trans ((zu_ne _ _ (by decide)).trans ((zu_ne _ _ (by decide)).trans ((zu_ne _ _ (by decide)).trans (zu_same _ _ _))))))))))))
      · exact ((zu_ne _ _ (by decide)).trans ((zu_ne _ _ (by decide)).trans ((zu_ne _ _ (by decide)).trans ((zu_ne _ _ (by decide)).trans ((zu_ne _ _ (by decide)).trans ((zu_ne _ _ (by decide)).trans ((zu_ne _ _ (by decide)).trans ((zu_ne _ _ (by decide)).trans ((zu_ne _ _ (by decide)).trans (zu_same _ _ _))))))))))
      · exact ((zu_ne _ _ (by decide)).trans ((zu_ne _ _ (by decide)).trans ((zu_ne _ _ (by decide)).trans ((zu_ne _ _ (by decide)).trans ((zu_ne _ _ (by decide)).trans ((zu_ne _ _ (by decide)).trans ((zu_ne _ _ (by decide)).trans (zu_same _ _ _))))))))
      · exact ((zu_ne _ _ (by decide)).trans ((zu_ne _ _ (by decide)).trans ((zu_ne _ _ (by decide)).trans ((zu_ne _ _ (by decide)).trans ((zu_ne _ _ (by decide)).trans (zu_same _ _ _))))))
      · exact ((zu_ne _ _ (by decide)).trans ((zu_ne _ _ (by decide)).trans ((zu_ne _ _ (by decide)).trans (zu_same _ _ _))))
      · exact ((zu_ne _ _ (by decide)).trans (zu_same _ _ _))
  refine b_iconst (v := nI 0) 188 dX10_init_187 rfl (by decide) ?_
  refine b_istore_n 189 dX10_init_188 rfl (by decide) rfl rfl ?_
  refine lm1 ?_ 6 0 rfl
  refine b_iconst (v := nI 0) 210 dX10_init_209 rfl (by decide) ?_
  refine b_istore_n 211 dX10_init_210 rfl (by decide) rfl rfl ?_
  refine lm2 ?_ 4 0 rfl
  exact b_le (zC E st0) mW_end (b_vret dX10_init_230 rfl (by decide) (by decide) ⟨rfl, wle.eq fun _ _ => rfl⟩)
