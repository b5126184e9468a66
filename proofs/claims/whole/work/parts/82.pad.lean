/-! the start's cells -/
def st0 : zM := (fun a => bif (Nat.ble 24 a && Nat.ble a 43 && Nat.beq (a % 2) 0) then (fun j => bif Nat.beq j 1 then -1 else 0) else bif Nat.beq a 104 then (fun j => bif Nat.blt j 6 then -9 else 0) else bif Nat.beq a 107 then (fun j => bif Nat.blt j 4 then -9 else 0) else fun _ => 0,
  fun a => bif (Nat.beq a 6 || Nat.beq a 102) then (fun j => bif Nat.beq j 4 then 1 else 0) else fun _ => 0, fun _ _ => 44)
def rA (E : zE) (c r : Nat) : Nat → Option Nat := fun j => if j < r then some (E.2.1 + zLa c j) else none
def gW (E : zE) (rs : Nat → Nat) (fs : List Value) : zN := fun k => if k = 0 then .inr (9, fs) else if k < 6 then .inl (E.2.2.2.2 ((kd k).1 - 11), (kd k).2, .inr (.inr (.inr (.inr (rA E k (rs k)))))) else zC E st0 k
def rS (c r : Nat) : Nat → Nat := fun k => if k < c then (kd k).2 else if k = c then r else 0
theorem gW_0 {E : zE} {rs : Nat → Nat} {fs : List Value} : gW E rs fs 0 = .inr (9, fs) := rfl
theorem gW_c {E : zE} {rs : Nat → Nat} {fs : List Value} {c : Nat} (h0 : 0 < c) (h : c < 6) : gW E rs fs c = .inl (E.2.2.2.2 ((kd c).1 - 11), (kd c).2, .inr (.inr (.inr (.inr (rA E c (rs c)))))) := by
  unfold gW
  rw [if_neg (by omega), if_pos h]
theorem gW_hi {E : zE} {rs : Nat → Nat} {fs : List Value} {k : Nat} (h : 6 ≤ k) : gW E rs fs k = zC E st0 k := by
  unfold gW
  rw [if_neg (by omega), if_neg (by omega)]
theorem gW_ne {E : zE} {rs rs' : Nat → Nat} {fs fs' : List Value} {k : Nat} (h0 : k ≠ 0) (h : k < 6 → rs k = rs' k) : gW E rs fs k = gW E rs' fs' k := by
  rcases Nat.lt_or_ge k 6 with q | q
  · rw [gW_c (by omega) q, gW_c (by omega) q, h q]
  · rw [gW_hi q, gW_hi q]
theorem rS_c (c r : Nat) : rS c r c = r := by
  unfold rS
  rw [if_neg (by omega), if_pos rfl]
theorem rA_up (E : zE) (c r : Nat) : va_up (rA E c r) r (some (E.2.1 + zLa c r)) = rA E c (r + 1) := by
  funext j
  unfold va_up rA
  by_cases h : j = r
  · subst h
    rw [if_pos rfl, if_pos (by omega)]
  · rw [if_neg h]
    by_cases h2 : j < r
    · rw [if_pos h2, if_pos (by omega)]
    · rw [if_neg h2, if_neg (by omega)]
theorem b_cast {E : zE} {M : zY} {d mc ms : Nat} {Q : zN → Nat → Prop} {pc : Nat} {ls : List (Option Value)} {st : List Value} {w : zN} {N kc ks : Nat} (N' kc' ks' : Nat) (h1 : N = N') (h2 : kc = kc') (h3 : ks = ks') (k : Bt E M d mc ms Q pc ls st w N' kc' ks') : Bt E M d mc ms Q pc ls st w N kc ks := by
  subst h1
  subst h2
  subst h3
  exact k
/-- one object more in its row -/
theorem gW_step {E : zE} {w1 : zN} {c r n N : Nat} {fs : List Value} (hc0 : 0 < c) (hc : c < 6) (h6 : 6 ≤ n) (hz : zLa c r = n) (h4 : ∀ k, k < n → w1 k = gW E (rS c r) fs k) (h5 : ∀ k, n ≤ k → k < N → w1 k = zC E st0 k) : wle E N (zu w1 c (.inl (E.2.2.2.2 ((kd c).1 - 11), (kd c).2, .inr (.inr (.inr (.inr (va_up (rA E c r) r (some (E.2.1 + n))))))))) (gW E (rS c (r + 1)) fs) := by
  subst hz
  refine wle.eq fun k hk => ?_
  by_cases h : k = c
  · subst h
    rw [zu_same, rA_up, gW_c hc0 hc, rS_c]
  · rw [zu_ne _ _ h]
    rcases Nat.lt_or_ge k (zLa c r) with q | q
    · rw [h4 k q]
      by_cases h0 : k = 0
      · subst h0
        rfl
      · exact gW_ne h0 (fun _ => by unfold rS; rw [if_neg h, if_neg h])
    · rw [h5 k q hk, gW_hi (by omega)]
/-- one field more -/
theorem gW_put {E : zE} {w1 : zN} {n N : Nat} {rs : Nat → Nat} {fs fs' : List Value} (h6 : 6 ≤ n) (h4 : ∀ k, k < n → w1 k = gW E rs fs k) (h5 : ∀ k, n ≤ k → k < N → w1 k = zC E st0 k) : wle E N (zu w1 0 (.inr (9, fs'))) (gW E rs fs') := by
  refine wle.eq fun k hk => ?_
  by_cases h : k = 0
  · subst h
    rfl
  · rw [zu_ne _ _ h]
    rcases Nat.lt_or_ge k n with q | q
    · rw [h4 k q]
      exact gW_ne h (fun _ => rfl)
    · rw [h5 k q hk, gW_hi (by omega)]
theorem gW_next {E : zE} {c N : Nat} {fs : List Value} : wle E N (gW E (rS c (kd c).2) fs) (gW E (rS (c + 1) 0) fs) := by
  refine wle.eq fun k hk => ?_
  by_cases h : k = 0
  · subst h
    rfl
  · refine gW_ne h (fun _ => ?_)
    unfold rS
    by_cases h1 : k < c
    · rw [if_pos h1, if_pos (by omega)]
    · rw [if_neg h1]
      by_cases h2 : k = c
      · subst h2
        rw [if_pos rfl, if_pos (by omega)]
      · rw [if_neg h2, if_neg (by omega), ite_self]
/-- Leaf() -/
theorem tX3_init {E : zE} {w : zN} {N a : Nat} (d : Nat) (ha : a < N) (hw : w a = .inr (3, [.null, .int 0, .int 0, .int 0, .int 0, .int 0])) : Rit E mX3_init (d + 1) [zr E a] w N (fun w' N' => N' = N + 2 ∧ w' a = .inr (3, [zr E N, .int 0, .int 0, .int 0, .int 0, .int 0]) ∧ w' N = .inr (2, [zr E (N + 1), .int 0]) ∧ w' (N + 1) = .inl (E.2.2.2.2 0, 6, .inl (fun _ => 0)) ∧ ∀ k, k < N → k ≠ a → w' k = w k) 2 8 := by
  refine Rit.of [some (zr E a)] (by decide +kernel) rfl (Nat.le_of_ble_eq_true rfl) rfl ?_
  refine b_aload_n 1 dX3_init_0 rfl rfl ?_
  refine b_obj 4 dX3_init_1 rfl obX3 oi oc ?_
  refine b_aload_n 5 dX3_init_4 rfl rfl ?_
  refine b_new 8 tyX2 (fs := [.null, .int 0]) tyX2_ok dX3_init_5 rfl (ci := 2) rfl iX2 clX3_7 inX2 iniX2 rfl (by decide) (by decide) ?_
  refine b_dup 9 dX3_init_8 rfl rfl ?_
  refine b_callIN 12 (As := []) (rest := [zr E N, zr E a]) (tX2_init d (a := N) (by omega) (zu_same _ _ _)) kiX2 dX3_init_9 rfl liX3_9 rfl rfl (Nat.le_of_ble_eq_true rfl) (by decide) (by decide) (fun _ _ h => h.1) (fun w1 h => ?_)
  obtain ⟨-, h1, h2, h3⟩ := h
  refine b_putF 15 tyX3 tyX3_ok nmX3 dX3_init_12 rfl (a := a) (ci := 3) (j := 0) (fs := [.null, .int 0, .int 0, .int 0, .int 0, .int 0]) (by omega) ((h3 a (by omega) (by omega)).trans ((zu_ne _ _ (by omega)).trans hw)) rfl iX3 (by decide) fX3_10 rfl rfl rfl (tyX3_ok 0 (by decide)) rfl rfl (by simp) ?_
  exact b_vret dX3_init_15 rfl (by omega) (by omega) ⟨rfl, zu_same _ _ _, (zu_ne _ _ (by omega)).trans h1, (zu_ne _ _ (by omega)).trans h2, fun k hk hka => (zu_ne _ _ hka).trans ((h3 k (by omega) (by omega)).trans (zu_ne _ _ (by omega)))⟩
abbrev fs0 (E : zE) : List Value := [zr E 1, zr E 2, zr E 3, zr E 4, zr E 5, zr E 6, zr E 8, zr E 10, zr E 13, zr E 19, .null, .int 0, .int 0]
theorem zc1 (E : zE) (r : Nat) (h : r < 6) : zC E st0 (24 + 2 * r) = .inr (7, [zr E (24 + 2 * r + 1), .int (-1)]) ∧ zC E st0 (24 + 2 * r + 1) = .inl (E.2.2.2.2 0, 40, .inl (fun _ => 0)) := by
  rcases (by omega : r = 0 ∨ r = 1 ∨ r = 2 ∨ r = 3 ∨ r = 4 ∨ r = 5) with rfl | rfl | rfl | rfl | rfl | rfl <;> exact ⟨rfl, rfl⟩
theorem zc2 (E : zE) (r : Nat) (h : r < 4) : zC E st0 (36 + 2 * r) = .inr (7, [zr E (36 + 2 * r + 1), .int (-1)]) ∧ zC E st0 (36 + 2 * r + 1) = .inl (E.2.2.2.2 0, 120, .inl (fun _ => 0)) := by
  rcases (by omega : r = 0 ∨ r = 1 ∨ r = 2 ∨ r = 3) with rfl | rfl | rfl | rfl <;> exact ⟨rfl, rfl⟩
theorem zc3 (E : zE) (r : Nat) (h : r < 2) : zC E st0 (44 + 2 * r) = .inr (1, [zr E (44 + 2 * r + 1), .int 0]) ∧ zC E st0 (44 + 2 * r + 1) = .inl (E.2.2.2.2 0, 80, .inl (fun _ => 0)) := by
  rcases (by omega : r = 0 ∨ r = 1) with rfl | rfl <;> exact ⟨rfl, rfl⟩
theorem zc4 (E : zE) (r : Nat) (h : r < 8) : zC E st0 (48 + 2 * r) = .inr (4, [zr E (48 + 2 * r + 1), .int 0, .int 0, .int 0, .int 0, zr E 44]) ∧ zC E st0 (48 + 2 * r + 1) = .inl (E.2.2.2.2 0, 8, .inl (fun _ => 0)) := by
  rcases (by omega : r = 0 ∨ r = 1 ∨ r = 2 ∨ r = 3 ∨ r = 4 ∨ r = 5 ∨ r = 6 ∨ r = 7) with rfl | rfl | rfl | rfl | rfl | rfl | rfl | rfl <;> exact ⟨rfl, rfl⟩
theorem zc5 (E : zE) (r : Nat) (h : r < 12) : zC E st0 (64 + 3 * r) = .inr (3, [zr E (64 + 3 * r + 1), .int 0, .int 0, .int 0, .int 0, .int 0]) ∧ zC E st0 (64 + 3 * r + 1) = .inr (2, [zr E (64 + 3 * r + 2), .int 0]) ∧ zC E st0 (64 + 3 * r + 2) = .inl (E.2.2.2.2 0, 6, .inl (fun _ => 0)) := by
  rcases (by omega : r = 0 ∨ r = 1 ∨ r = 2 ∨ r = 3 ∨ r = 4 ∨ r = 5 ∨ r = 6 ∨ r = 7 ∨ r = 8 ∨ r = 9 ∨ r = 10 ∨ r = 11) with rfl | rfl | rfl | rfl | rfl | rfl | rfl | rfl | rfl | rfl | rfl | rfl <;> exact ⟨rfl, rfl, rfl⟩
theorem lz1 {E : zE} {d : Nat} {Q : zN → Nat → Prop} (kE : Bt E mX9_init (d + 2) 101 5493 Q 131 [some (zr E 0), some (.int (nI 6))] [] (gW E (rS 1 6) (fs0 E)) 36 35 4547) : ∀ (n r : Nat), r + n = 6 → Bt E mX9_init (d + 2) 101 5493 Q 104 [some (zr E 0), some (.int (nI r))] [] (gW E (rS 1 r) (fs0 E)) (24 + 2 * r) (23 + 2 * r) (4295 + 42 * r) := by
  intro n
  induction n with
  | zero =>
    intro r hr
    obtain rfl : r = 6 := by omega
    refine b_iload_n 105 dX9_init_104 rfl rfl ?_
    refine b_bipush (v := nI 6) 107 dX9_init_105 rfl (by decide) ?_
    exact b_icmp_ge 131 110 dX9_init_107 (by decide) rfl (fun _ => kE) (fun h => absurd (by decide) h)
  | succ n ih =>
    intro r hr
    have hr6 : r < 6 := by omega
    refine b_iload_n 105 dX9_init_104 rfl rfl ?_
    refine b_bipush (v := nI 6) 107 dX9_init_105 rfl (by decide) ?_
    refine b_icmp_ge 131 110 dX9_init_107 (by decide) rfl (fun h => absurd h (nI_ge hr6 (by decide))) (fun _ => ?_)
    refine b_aload_n 111 dX9_init_110 rfl rfl ?_
    refine b_get 114 dX9_init_111 rfl (a := 0) (ci := 9) (j := 0) (fs := fs0 E) (v := zr E 1) (by omega) gW_0 rfl iX9 (by decide) fX9_11 rfl rfl ?_
    refine b_iload_n 115 dX9_init_114 rfl rfl ?_
    refine b_new 118 tyX7 (fs := [.null, .int 0]) tyX7_ok dX9_init_115 rfl (ci := 7) rfl iX7 clX9_9 inX7 iniX7 rfl (by omega) (by omega) ?_
    refine b_dup 119 dX9_init_118 rfl rfl ?_
    refine b_bipush (v := nI 40) 121 dX9_init_119 rfl (by decide) ?_
    refine b_callI 124 (As := [.int (nI 40)]) (rest := [zr E (24 + 2 * r), .int (nI r), zr E 1]) (tX7_init (d + 1) 40 (by decide) (a := 24 + 2 * r) (by omega) (zu_same _ _ _)) kiX7 dX9_init_121 rfl liX9_71 rfl rfl (Nat.le_of_ble_eq_true rfl) (by omega) (by omega) (fun _ _ h => h.1) (fun w1 h => ?_)
    obtain ⟨-, h1, h2, h3⟩ := h
    have h4 : ∀ k, k < 24 + 2 * r → w1 k = gW E (rS 1 r) (fs0 E) k := fun k hk => (h3 k (by omega) (by omega)).trans (zu_ne _ _ (by omega))
    have hx := zc1 E r hr6
    have h5 : ∀ k, 24 + 2 * r ≤ k → k < 24 + 2 * r + 2 → w1 k = zC E st0 k := by
      intro k hk1 hk2
      rcases (by omega : k = 24 + 2 * r ∨ k = 24 + 2 * r + 1) with rfl | rfl
      · exact h1.trans hx.1.symm
      · exact h2.trans hx.2.symm
    refine b_aast 125 dX9_init_124 rfl (a := 1) (b := 24 + 2 * r) (t := 3) (ci := 7) (r := (RX7, TX7, 2)) (n := 6) (f := rA E 1 r) (by omega) ((h4 1 (by omega)).trans ((gW_c (by decide) (by decide)).trans (by rw [rS_c]; rfl))) rfl (by omega) h1 rfl (vp_in_nI hr6 (by omega)) ?_
    rw [nI_clamp (by omega)]
    refine b_iinc 128 dX9_init_125 rfl rfl (v := nI (r + 1)) (by rw [← nI_1]; rfl) (by decide) rfl rfl ?_
    refine b_goto 104 dX9_init_128 (by decide) ?_
    refine b_le (gW E (rS 1 (r + 1)) (fs0 E)) (gW_step (c := 1) (r := r) (n := 24 + 2 * r) (by decide) (by decide) (by omega) rfl h4 h5) ?_
    exact b_cast (24 + 2 * (r + 1)) (23 + 2 * (r + 1)) (4295 + 42 * (r + 1)) (by omega) (by omega) (by omega) (ih (r + 1) (by omega))
theorem lz2 {E : zE} {d : Nat} {Q : zN → Nat → Prop} (kE : Bt E mX9_init (d + 2) 101 5493 Q 159 [some (zr E 0), some (.int (nI 4))] [] (gW E (rS 2 4) (fs0 E)) 44 43 5035) : ∀ (n r : Nat), r + n = 4 → Bt E mX9_init (d + 2) 101 5493 Q 133 [some (zr E 0), some (.int (nI r))] [] (gW E (rS 2 r) (fs0 E)) (36 + 2 * r) (35 + 2 * r) (4547 + 122 * r) := by
  intro n
  induction n with
  | zero =>
    intro r hr
    obtain rfl : r = 4 := by omega
    refine b_iload_n 134 dX9_init_133 rfl rfl ?_
    refine b_iconst (v := nI 4) 135 dX9_init_134 rfl (by decide) ?_
    exact b_icmp_ge 159 138 dX9_init_135 (by decide) rfl (fun _ => kE) (fun h => absurd (by decide) h)
  | succ n ih =>
    intro r hr
    have hr6 : r < 4 := by omega
    refine b_iload_n 134 dX9_init_133 rfl rfl ?_
    refine b_iconst (v := nI 4) 135 dX9_init_134 rfl (by decide) ?_
    refine b_icmp_ge 159 138 dX9_init_135 (by decide) rfl (fun h => absurd h (nI_ge hr6 (by decide))) (fun _ => ?_)
    refine b_aload_n 139 dX9_init_138 rfl rfl ?_
    refine b_get 142 dX9_init_139 rfl (a := 0) (ci := 9) (j := 1) (fs := fs0 E) (v := zr E 2) (by omega) gW_0 rfl iX9 (by decide) fX9_15 rfl rfl ?_
    refine b_iload_n 143 dX9_init_142 rfl rfl ?_
    refine b_new 146 tyX7 (fs := [.null, .int 0]) tyX7_ok dX9_init_143 rfl (ci := 7) rfl iX7 clX9_9 inX7 iniX7 rfl (by omega) (by omega) ?_
    refine b_dup 147 dX9_init_146 rfl rfl ?_
    refine b_bipush (v := nI 120) 149 dX9_init_147 rfl (by decide) ?_
    refine b_callI 152 (As := [.int (nI 120)]) (rest := [zr E (36 + 2 * r), .int (nI r), zr E 2]) (tX7_init (d + 1) 120 (by decide) (a := 36 + 2 * r) (by omega) (zu_same _ _ _)) kiX7 dX9_init_149 rfl liX9_71 rfl rfl (Nat.le_of_ble_eq_true rfl) (by omega) (by omega) (fun _ _ h => h.1) (fun w1 h => ?_)
    obtain ⟨-, h1, h2, h3⟩ := h
    have h4 : ∀ k, k < 36 + 2 * r → w1 k = gW E (rS 2 r) (fs0 E) k := fun k hk => (h3 k (by omega) (by omega)).trans (zu_ne _ _ (by omega))
    have hx := zc2 E r hr6
    have h5 : ∀ k, 36 + 2 * r ≤ k → k < 36 + 2 * r + 2 → w1 k = zC E st0 k := by
      intro k hk1 hk2
      rcases (by omega : k = 36 + 2 * r ∨ k = 36 + 2 * r + 1) with rfl | rfl
      · exact h1.trans hx.1.symm
      · exact h2.trans hx.2.symm
    refine b_aast 153 dX9_init_152 rfl (a := 2) (b := 36 + 2 * r) (t := 3) (ci := 7) (r := (RX7, TX7, 2)) (n := 4) (f := rA E 2 r) (by omega) ((h4 2 (by omega)).trans ((gW_c (by decide) (by decide)).trans (by rw [rS_c]; rfl))) rfl (by omega) h1 rfl (vp_in_nI hr6 (by omega)) ?_
    rw [nI_clamp (by omega)]
    refine b_iinc 156 dX9_init_153 rfl rfl (v := nI (r + 1)) (by rw [← nI_1]; rfl) (by decide) rfl rfl ?_
    refine b_goto 133 dX9_init_156 (by decide) ?_
    refine b_le (gW E (rS 2 (r + 1)) (fs0 E)) (gW_step (c := 2) (r := r) (n := 36 + 2 * r) (by decide) (by decide) (by omega) rfl h4 h5) ?_
    exact b_cast (36 + 2 * (r + 1)) (35 + 2 * (r + 1)) (4547 + 122 * (r + 1)) (by omega) (by omega) (by omega) (ih (r + 1) (by omega))
theorem lz3 {E : zE} {d : Nat} {Q : zN → Nat → Prop} (kE : Bt E mX9_init (d + 2) 101 5493 Q 185 [some (zr E 0), some (.int (nI 2))] [] (gW E (rS 3 2) (fs0 E)) 48 47 5199) : ∀ (n r : Nat), r + n = 2 → Bt E mX9_init (d + 2) 101 5493 Q 161 [some (zr E 0), some (.int (nI r))] [] (gW E (rS 3 r) (fs0 E)) (44 + 2 * r) (43 + 2 * r) (5035 + 82 * r) := by
  intro n
  induction n with
  | zero =>
    intro r hr
    obtain rfl : r = 2 := by omega
    refine b_iload_n 162 dX9_init_161 rfl rfl ?_
    refine b_iconst (v := nI 2) 163 dX9_init_162 rfl (by decide) ?_
    exact b_icmp_ge 185 166 dX9_init_163 (by decide) rfl (fun _ => kE) (fun h => absurd (by decide) h)
  | succ n ih =>
    intro r hr
    have hr6 : r < 2 := by omega
    refine b_iload_n 162 dX9_init_161 rfl rfl ?_
    refine b_iconst (v := nI 2) 163 dX9_init_162 rfl (by decide) ?_
    refine b_icmp_ge 185 166 dX9_init_163 (by decide) rfl (fun h => absurd h (nI_ge hr6 (by decide))) (fun _ => ?_)
    refine b_aload_n 167 dX9_init_166 rfl rfl ?_
    refine b_get 170 dX9_init_167 rfl (a := 0) (ci := 9) (j := 2) (fs := fs0 E) (v := zr E 3) (by omega) gW_0 rfl iX9 (by decide) fX9_20 rfl rfl ?_
    refine b_iload_n 171 dX9_init_170 rfl rfl ?_
    refine b_new 174 tyX1 (fs := [.null, .int 0]) tyX1_ok dX9_init_171 rfl (ci := 1) rfl iX1 clX9_18 inX1 iniX1 rfl (by omega) (by omega) ?_
    refine b_dup 175 dX9_init_174 rfl rfl ?_
    refine b_callIN 178 (As := []) (rest := [zr E (44 + 2 * r), .int (nI r), zr E 3]) (tX1_init (d + 1) (a := 44 + 2 * r) (by omega) (zu_same _ _ _)) kiX1 dX9_init_175 rfl liX9_74 rfl rfl (Nat.le_of_ble_eq_true rfl) (by omega) (by omega) (fun _ _ h => h.1) (fun w1 h => ?_)
    obtain ⟨-, h1, h2, h3⟩ := h
    have h4 : ∀ k, k < 44 + 2 * r → w1 k = gW E (rS 3 r) (fs0 E) k := fun k hk => (h3 k (by omega) (by omega)).trans (zu_ne _ _ (by omega))
    have hx := zc3 E r hr6
    have h5 : ∀ k, 44 + 2 * r ≤ k → k < 44 + 2 * r + 2 → w1 k = zC E st0 k := by
      intro k hk1 hk2
      rcases (by omega : k = 44 + 2 * r ∨ k = 44 + 2 * r + 1) with rfl | rfl
      · exact h1.trans hx.1.symm
      · exact h2.trans hx.2.symm
    refine b_aast 179 dX9_init_178 rfl (a := 3) (b := 44 + 2 * r) (t := 4) (ci := 1) (r := (RX1, TX1, 2)) (n := 2) (f := rA E 3 r) (by omega) ((h4 3 (by omega)).trans ((gW_c (by decide) (by decide)).trans (by rw [rS_c]; rfl))) rfl (by omega) h1 rfl (vp_in_nI hr6 (by omega)) ?_
    rw [nI_clamp (by omega)]
    refine b_iinc 182 dX9_init_179 rfl rfl (v := nI (r + 1)) (by rw [← nI_1]; rfl) (by decide) rfl rfl ?_
    refine b_goto 161 dX9_init_182 (by decide) ?_
    refine b_le (gW E (rS 3 (r + 1)) (fs0 E)) (gW_step (c := 3) (r := r) (n := 44 + 2 * r) (by decide) (by decide) (by omega) rfl h4 h5) ?_
    exact b_cast (44 + 2 * (r + 1)) (43 + 2 * (r + 1)) (5035 + 82 * (r + 1)) (by omega) (by omega) (by omega) (ih (r + 1) (by omega))
theorem lz4 {E : zE} {d : Nat} {Q : zN → Nat → Prop} (kE : Bt E mX9_init (d + 2) 101 5493 Q 218 [some (zr E 0), some (.int (nI 8))] [] (gW E (rS 4 8) (fs0 E)) 64 63 5311) : ∀ (n r : Nat), r + n = 8 → Bt E mX9_init (d + 2) 101 5493 Q 187 [some (zr E 0), some (.int (nI r))] [] (gW E (rS 4 r) (fs0 E)) (48 + 2 * r) (47 + 2 * r) (5199 + 14 * r) := by
  intro n
  induction n with
  | zero =>
    intro r hr
    obtain rfl : r = 8 := by omega
    refine b_iload_n 188 dX9_init_187 rfl rfl ?_
    refine b_bipush (v := nI 8) 190 dX9_init_188 rfl (by decide) ?_
    exact b_icmp_ge 218 193 dX9_init_190 (by decide) rfl (fun _ => kE) (fun h => absurd (by decide) h)
  | succ n ih =>
    intro r hr
    have hr6 : r < 8 := by omega
    refine b_iload_n 188 dX9_init_187 rfl rfl ?_
    refine b_bipush (v := nI 8) 190 dX9_init_188 rfl (by decide) ?_
    refine b_icmp_ge 218 193 dX9_init_190 (by decide) rfl (fun h => absurd h (nI_ge hr6 (by decide))) (fun _ => ?_)
    refine b_aload_n 194 dX9_init_193 rfl rfl ?_
    refine b_get 197 dX9_init_194 rfl (a := 0) (ci := 9) (j := 3) (fs := fs0 E) (v := zr E 4) (by omega) gW_0 rfl iX9 (by decide) fX9_26 rfl rfl ?_
    refine b_iload_n 198 dX9_init_197 rfl rfl ?_
    refine b_new 201 tyX4 (fs := [.null, .int 0, .int 0, .int 0, .int 0, .null]) tyX4_ok dX9_init_198 rfl (ci := 4) rfl iX4 clX9_24 inX4 iniX4 rfl (by omega) (by omega) ?_
    refine b_dup 202 dX9_init_201 rfl rfl ?_
    refine b_aload_n 203 dX9_init_202 rfl rfl ?_
    refine b_get 206 dX9_init_203 rfl (a := 0) (ci := 9) (j := 2) (fs := fs0 E) (v := zr E 3) (by omega) (by rw [zu_ne _ _ (by omega)]; exact gW_0) rfl iX9 (by decide) fX9_20 rfl rfl ?_
    refine b_iconst (v := nI 0) 207 dX9_init_206 rfl (by decide) ?_
    refine b_aald 208 dX9_init_207 rfl (a := 3) (n := 2) (t := 4) (x := 44) (C := RX1) (f := rA E 3 2) (by omega) (by rw [zu_ne _ _ (by omega)]; exact gW_c (by decide) (by decide)) rfl (vp_in_nI (by decide) (by decide)) rfl ?_
    refine b_callI 211 (As := [zr E 44]) (rest := [zr E (48 + 2 * r), .int (nI r), zr E 4]) (tX4_init (d + 1) 44 (a := 48 + 2 * r) (by omega) (zu_same _ _ _)) kiX4 dX9_init_208 rfl liX9_75 rfl rfl (Nat.le_of_ble_eq_true rfl) (by omega) (by omega) (fun _ _ h => h.1) (fun w1 h => ?_)
    obtain ⟨-, h1, h2, h3⟩ := h
    have h4 : ∀ k, k < 48 + 2 * r → w1 k = gW E (rS 4 r) (fs0 E) k := fun k hk => (h3 k (by omega) (by omega)).trans (zu_ne _ _ (by omega))
    have hx := zc4 E r hr6
    have h5 : ∀ k, 48 + 2 * r ≤ k → k < 48 + 2 * r + 2 → w1 k = zC E st0 k := by
      intro k hk1 hk2
      rcases (by omega : k = 48 + 2 * r ∨ k = 48 + 2 * r + 1) with rfl | rfl
      · exact h1.trans hx.1.symm
      · exact h2.trans hx.2.symm
    refine b_aast 212 dX9_init_211 rfl (a := 4) (b := 48 + 2 * r) (t := 5) (ci := 4) (r := (RX4, TX4, 6)) (n := 8) (f := rA E 4 r) (by omega) ((h4 4 (by omega)).trans ((gW_c (by decide) (by decide)).trans (by rw [rS_c]; rfl))) rfl (by omega) h1 rfl (vp_in_nI hr6 (by omega)) ?_
    rw [nI_clamp (by omega)]
    refine b_iinc 215 dX9_init_212 rfl rfl (v := nI (r + 1)) (by rw [← nI_1]; rfl) (by decide) rfl rfl ?_
    refine b_goto 187 dX9_init_215 (by decide) ?_
    refine b_le (gW E (rS 4 (r + 1)) (fs0 E)) (gW_step (c := 4) (r := r) (n := 48 + 2 * r) (by decide) (by decide) (by omega) rfl h4 h5) ?_
    exact b_cast (48 + 2 * (r + 1)) (47 + 2 * (r + 1)) (5199 + 14 * (r + 1)) (by omega) (by omega) (by omega) (ih (r + 1) (by omega))
theorem lz5 {E : zE} {d : Nat} {Q : zN → Nat → Prop} (kE : Bt E mX9_init (d + 2) 101 5493 Q 245 [some (zr E 0), some (.int (nI 12))] [] (gW E (rS 5 12) (fs0 E)) 100 99 5479) : ∀ (n r : Nat), r + n = 12 → Bt E mX9_init (d + 2) 101 5493 Q 220 [some (zr E 0), some (.int (nI r))] [] (gW E (rS 5 r) (fs0 E)) (64 + 3 * r) (63 + 3 * r) (5311 + 14 * r) := by
  intro n
  induction n with
  | zero =>
    intro r hr
    obtain rfl : r = 12 := by omega
    refine b_iload_n 221 dX9_init_220 rfl rfl ?_
    refine b_bipush (v := nI 12) 223 dX9_init_221 rfl (by decide) ?_
    exact b_icmp_ge 245 226 dX9_init_223 (by decide) rfl (fun _ => kE) (fun h => absurd (by decide) h)
  | succ n ih =>
    intro r hr
    have hr6 : r < 12 := by omega
    refine b_iload_n 221 dX9_init_220 rfl rfl ?_
    refine b_bipush (v := nI 12) 223 dX9_init_221 rfl (by decide) ?_
    refine b_icmp_ge 245 226 dX9_init_223 (by decide) rfl (fun h => absurd h (nI_ge hr6 (by decide))) (fun _ => ?_)
    refine b_aload_n 227 dX9_init_226 rfl rfl ?_
    refine b_get 230 dX9_init_227 rfl (a := 0) (ci := 9) (j := 4) (fs := fs0 E) (v := zr E 5) (by omega) gW_0 rfl iX9 (by decide) fX9_32 rfl rfl ?_
    refine b_iload_n 231 dX9_init_230 rfl rfl ?_
    refine b_new 234 tyX3 (fs := [.null, .int 0, .int 0, .int 0, .int 0, .int 0]) tyX3_ok dX9_init_231 rfl (ci := 3) rfl iX3 clX9_30 inX3 iniX3 rfl (by omega) (by omega) ?_
    refine b_dup 235 dX9_init_234 rfl rfl ?_
    refine b_callIN 238 (As := []) (rest := [zr E (64 + 3 * r), .int (nI r), zr E 5]) (tX3_init d (a := 64 + 3 * r) (by omega) (zu_same _ _ _)) kiX3 dX9_init_235 rfl liX9_78 rfl rfl (Nat.le_of_ble_eq_true rfl) (by omega) (by omega) (fun _ _ h => h.1) (fun w1 h => ?_)
    obtain ⟨-, h1, h2, h25, h3⟩ := h
    have h4 : ∀ k, k < 64 + 3 * r → w1 k = gW E (rS 5 r) (fs0 E) k := fun k hk => (h3 k (by omega) (by omega)).trans (zu_ne _ _ (by omega))
    have hx := zc5 E r hr6
    have h5 : ∀ k, 64 + 3 * r ≤ k → k < 64 + 3 * r + 3 → w1 k = zC E st0 k := by
      intro k hk1 hk2
      rcases (by omega : k = 64 + 3 * r ∨ k = 64 + 3 * r + 1 ∨ k = 64 + 3 * r + 2) with rfl | rfl | rfl
      · exact h1.trans hx.1.symm
      · exact h2.trans hx.2.1.symm
      · exact h25.trans hx.2.2.symm
    refine b_aast 239 dX9_init_238 rfl (a := 5) (b := 64 + 3 * r) (t := 6) (ci := 3) (r := (RX3, TX3, 6)) (n := 12) (f := rA E 5 r) (by omega) ((h4 5 (by omega)).trans ((gW_c (by decide) (by decide)).trans (by rw [rS_c]; rfl))) rfl (by omega) h1 rfl (vp_in_nI hr6 (by omega)) ?_
    rw [nI_clamp (by omega)]
    refine b_iinc 242 dX9_init_239 rfl rfl (v := nI (r + 1)) (by rw [← nI_1]; rfl) (by decide) rfl rfl ?_
    refine b_goto 220 dX9_init_242 (by decide) ?_
    refine b_le (gW E (rS 5 (r + 1)) (fs0 E)) (gW_step (c := 5) (r := r) (n := 64 + 3 * r) (by decide) (by decide) (by omega) rfl h4 h5) ?_
    exact b_cast (64 + 3 * (r + 1)) (63 + 3 * (r + 1)) (5311 + 14 * (r + 1)) (by omega) (by omega) (by omega) (ih (r + 1) (by omega))
theorem rA_0 (E : zE) (c : Nat) : rA E c 0 = fun _ => none := by
  funext j
  unfold rA
  rw [if_neg (by omega)]
/-- what is as good below the row's length -/
theorem va_refs {E : zE} {a n c : Nat} {H : Heap} {f f' : Nat → Option Nat} (h : ∀ j, j < n → f j = f' j) (hq : va_at (zD E) vwCl (a, .inl (E.2.2.2.2 c, n, .inr (.inr (.inr (.inr f))))) H) : va_at (zD E) vwCl (a, .inl (E.2.2.2.2 c, n, .inr (.inr (.inr (.inr f'))))) H := by
  have e : vp_cell (E.2.2.2.2 c) (n, .inr (.inr (.inr (.inr f)))) = vp_cell (E.2.2.2.2 c) (n, .inr (.inr (.inr (.inr f')))) := by
    rw [vp_cell_q, vp_cell_q]
    unfold arrV
    congr 2
    funext j
    show va_rf (f j.val) = va_rf (f' j.val)
    rw [h j.val j.isLt]
  have hq' : H[a]? = some (vp_cell (E.2.2.2.2 c) (n, .inr (.inr (.inr (.inr f))))) := hq
  rw [e] at hq'
  exact hq'
theorem gW_end (E : zE) : wle E 102 (gW E (rS 6 0) [zr E 1, zr E 2, zr E 3, zr E 4, zr E 5, zr E 6, zr E 8, zr E 10, zr E 13, zr E 19, zr E 100, .int 0, .int 0]) (zC E st0) := by
  intro k hk H hq
  rcases Nat.lt_or_ge k 6 with q | q
  · rcases (by omega : k = 0 ∨ k = 1 ∨ k = 2 ∨ k = 3 ∨ k = 4 ∨ k = 5) with rfl | rfl | rfl | rfl | rfl | rfl
    · exact hq
    · exact va_refs (a := E.2.1 + 1) (c := 3) (n := 6) (f := rA E 1 6) (f' := fun j => some (E.2.1 + zLa 1 j)) (fun j hj => by unfold rA; rw [if_pos hj]) hq
    · exact va_refs (a := E.2.1 + 2) (c := 3) (n := 4) (f := rA E 2 4) (f' := fun j => some (E.2.1 + zLa 2 j)) (fun j hj => by unfold rA; rw [if_pos hj]) hq
    · exact va_refs (a := E.2.1 + 3) (c := 4) (n := 2) (f := rA E 3 2) (f' := fun j => some (E.2.1 + zLa 3 j)) (fun j hj => by unfold rA; rw [if_pos hj]) hq
    · exact va_refs (a := E.2.1 + 4) (c := 5) (n := 8) (f := rA E 4 8) (f' := fun j => some (E.2.1 + zLa 4 j)) (fun j hj => by unfold rA; rw [if_pos hj]) hq
    · exact va_refs (a := E.2.1 + 5) (c := 6) (n := 12) (f := rA E 5 12) (f' := fun j => some (E.2.1 + zLa 5 j)) (fun j hj => by unfold rA; rw [if_pos hj]) hq
  · rw [gW_hi q] at hq
    exact hq
/-- PadRound() -/
theorem tX9_init {E : zE} {w : zN} (d : Nat) (hw : w 0 = .inr (9, [.null, .null, .null, .null, .null, .null, .null, .null, .null, .null, .null, .int 0, .int 0])) : Rit E mX9_init (d + 2) [zr E 0] w 1 (fun w' N' => N' = 1 + 101 ∧ wle E 102 w' (zC E st0)) 101 5493 := by
  refine Rit.of [some (zr E 0), none] (by decide +kernel) rfl (Nat.le_of_ble_eq_true rfl) rfl ?_
  refine b_aload_n 1 dX9_init_0 rfl rfl ?_
  refine b_obj 4 dX9_init_1 rfl obX9 oi oc ?_
  refine b_aload_n 5 dX9_init_4 rfl rfl ?_
  refine b_bipush (v := nI 6) 7 dX9_init_5 rfl (by decide) ?_
  refine b_anew 10 (n := 6) (t := 3) (C := RX7) dX9_init_7 rfl clX9_9 (fun _ h => h.1) rfl (by decide) (by decide) (by decide) (by decide) (by decide) ?_
  refine b_putF 13 tyX9 tyX9_ok nmX9 dX9_init_10 rfl (a := 0) (ci := 9) (j := 0) (fs := [.null, .null, .null, .null, .null, .null, .null, .null, .null, .null, .null, .int 0, .int 0]) (by decide) ((zu_ne _ _ (by decide)).trans hw) rfl iX9 (by decide) fX9_11 rfl rfl rfl (tyX9_ok 0 (by decide)) rfl rfl (by simp) ?_
  refine b_aload_n 14 dX9_init_13 rfl rfl ?_
  refine b_iconst (v := nI 4) 15 dX9_init_14 rfl (by decide) ?_
  refine b_anew 18 (n := 4) (t := 3) (C := RX7) dX9_init_15 rfl clX9_9 (fun _ h => h.1) rfl (by decide) (by decide) (by decide) (by decide) (by decide) ?_
  refine b_putF 21 tyX9 tyX9_ok nmX9 dX9_init_18 rfl (a := 0) (ci := 9) (j := 1) (fs := [zr E 1, .null, .null, .null, .null, .null, .null, .null, .null, .null, .null, .int 0, .int 0]) (by decide) ((zu_ne _ _ (by decide)).trans (zu_same _ _ _)) rfl iX9 (by decide) fX9_15 rfl rfl rfl (tyX9_ok 1 (by decide)) rfl rfl (by simp) ?_
  refine b_aload_n 22 dX9_init_21 rfl rfl ?_
  refine b_iconst (v := nI 2) 23 dX9_init_22 rfl (by decide) ?_
  refine b_anew 26 (n := 2) (t := 4) (C := RX1) dX9_init_23 rfl clX9_18 (fun _ h => h.2.1) rfl (by decide) (by decide) (by decide) (by decide) (by decide) ?_
  refine b_putF 29 tyX9 tyX9_ok nmX9 dX9_init_26 rfl (a := 0) (ci := 9) (j := 2) (fs := [zr E 1, zr E 2, .null, .null, .null, .null, .null, .null, .null, .null, .null, .int 0, .int 0]) (by decide) ((zu_ne _ _ (by decide)).trans (zu_same _ _ _)) rfl iX9 (by decide) fX9_20 rfl rfl rfl (tyX9_ok 2 (by decide)) rfl rfl (by simp) ?_
  refine b_aload_n 30 dX9_init_29 rfl rfl ?_
  refine b_bipush (v := nI 8) 32 dX9_init_30 rfl (by decide) ?_
  refine b_anew 35 (n := 8) (t := 5) (C := RX4) dX9_init_32 rfl clX9_24 (fun _ h => h.2.2.1) rfl (by decide) (by decide) (by decide) (by decide) (by decide) ?_
  refine b_putF 38 tyX9 tyX9_ok nmX9 dX9_init_35 rfl (a := 0) (ci := 9) (j := 3) (fs := [zr E 1, zr E 2, zr E 3, .null, .null, .null, .null, .null, .null, .null, .null, .int 0, .int 0]) (by decide) ((zu_ne _ _ (by decide)).trans (zu_same _ _ _)) rfl iX9 (by decide) fX9_26 rfl rfl rfl (tyX9_ok 3 (by decide)) rfl rfl (by simp) ?_
  refine b_aload_n 39 dX9_init_38 rfl rfl ?_
  refine b_bipush (v := nI 12) 41 dX9_init_39 rfl (by decide) ?_
  refine b_anew 44 (n := 12) (t := 6) (C := RX3) dX9_init_41 rfl clX9_30 (fun _ h => h.2.2.2) rfl (by decide) (by decide) (by decide) (by decide) (by decide) ?_
  refine b_putF 47 tyX9 tyX9_ok nmX9 dX9_init_44 rfl (a := 0) (ci := 9) (j := 4) (fs := [zr E 1, zr E 2, zr E 3, zr E 4, .null, .null, .null, .null, .null, .null, .null, .int 0, .int 0]) (by decide) ((zu_ne _ _ (by decide)).trans (zu_same _ _ _)) rfl iX9 (by decide) fX9_32 rfl rfl rfl (tyX9_ok 4 (by decide)) rfl rfl (by simp) ?_
  refine b_le (gW E (rS 1 0) [zr E 1, zr E 2, zr E 3, zr E 4, zr E 5, .null, .null, .null, .null, .null, .null, .int 0, .int 0]) (wle.eq fun k hk => ?_) ?_
  · rcases (by omega : k = 0 ∨ k = 1 ∨ k = 2 ∨ k = 3 ∨ k = 4 ∨ k = 5) with rfl | rfl | rfl | rfl | rfl | rfl
    · exact (zu_same _ _ _)
    · exact ((zu_ne _ _ (by decide)).trans ((zu_ne _ _ (by decide)).trans ((zu_ne _ _ (by decide)).trans ((zu_ne _ _ (by decide)).trans ((zu_ne _ _ (by decide)).trans ((zu_ne _ _ (by decide)).trans ((zu_ne _ _ (by decide)).trans ((zu_ne _ _ (by decide)).trans ((zu_ne _ _ (by decide)).trans (zu_same _ _ _)))))))))).trans (by rw [gW_c (by decide) (by decide)]; show _ = Sum.inl (_, _, Sum.inr (Sum.inr (Sum.inr (Sum.inr (rA E 1 0))))); rw [rA_0]; rfl)
    · exact ((zu_ne _ _ (by decide)).trans ((zu_ne _ _ (by decide)).trans ((zu_ne _ _ (by decide)).trans ((zu_ne _ _ (by decide)).trans ((zu_ne _ _ (by decide)).trans ((zu_ne _ _ (by decide)).trans ((zu_ne _ _ (by decide)).trans (zu_same _ _ _)))))))).trans (by rw [gW_c (by decide) (by decide)]; show _ = Sum.inl (_, _, Sum.inr (Sum.inr (Sum.inr (Sum.inr (rA E 2 0))))); rw [rA_0]; rfl)
    · exact ((zu_ne _ _ (by decide)).trans ((zu_ne _ _ (by decide)).trans ((zu_ne _ _ (by decide)).trans ((zu_ne _ _ (by decide)).trans ((zu_ne _ _ (by decide)).trans (zu_same _ _ _)))))).trans (by rw [gW_c (by decide) (by decide)]; show _ = Sum.inl (_, _, Sum.inr (Sum.inr (Sum.inr (Sum.inr (rA E 3 0))))); rw [rA_0]; rfl)
    · exact ((zu_ne _ _ (by decide)).trans ((zu_ne _ _ (by decide)).trans ((zu_ne _ _ (by decide)).trans (zu_same _ _ _)))).trans (by rw [gW_c (by decide) (by decide)]; show _ = Sum.inl (_, _, Sum.inr (Sum.inr (Sum.inr (Sum.inr (rA E 4 0))))); rw [rA_0]; rfl)
    · exact ((zu_ne _ _ (by decide)).trans (zu_same _ _ _)).trans (by rw [gW_c (by decide) (by decide)]; show _ = Sum.inl (_, _, Sum.inr (Sum.inr (Sum.inr (Sum.inr (rA E 5 0))))); rw [rA_0]; rfl)
  refine b_aload_n 48 dX9_init_47 rfl rfl ?_
  refine b_new 51 tyX0 (fs := [.null, .int 0, .int 0, .long 0, .long 0]) tyX0_ok dX9_init_48 rfl (ci := 0) rfl iX0 clX9_36 inX0 iniX0 rfl (by decide) (by decide) ?_
  refine b_dup 52 dX9_init_51 rfl rfl ?_
  refine b_callIN 55 (As := []) (rest := [zr E 6, zr E 0]) (tX0_init (d + 1) (a := 6) (by decide) (zu_same _ _ _)) kiX0 dX9_init_52 rfl liX9_38 rfl rfl (Nat.le_of_ble_eq_true rfl) (by decide) (by decide) (fun _ _ h => h.1) (fun w0 h => ?_)
  obtain ⟨-, g0, g1, h3⟩ := h
  have h4 : ∀ k, k < 6 → w0 k = gW E (rS 1 0) [zr E 1, zr E 2, zr E 3, zr E 4, zr E 5, .null, .null, .null, .null, .null, .null, .int 0, .int 0] k := fun k hk => (h3 k (by omega) (by omega)).trans (zu_ne _ _ (by omega))
  have h5 : ∀ k, 6 ≤ k → k < 8 → w0 k = zC E st0 k := by
    intro k hk1 hk2
    rcases (by omega : k = 6 ∨ k = 7) with rfl | rfl
    · exact g0
    · exact g1
  refine b_putF 58 tyX9 tyX9_ok nmX9 dX9_init_55 rfl (a := 0) (ci := 9) (j := 5) (fs := [zr E 1, zr E 2, zr E 3, zr E 4, zr E 5, .null, .null, .null, .null, .null, .null, .int 0, .int 0]) (by decide) ((h4 0 (by decide)).trans gW_0) rfl iX9 (by decide) fX9_39 rfl rfl rfl (tyX9_ok 5 (by decide)) rfl rfl (by simp) ?_
  refine b_le (gW E (rS 1 0) [zr E 1, zr E 2, zr E 3, zr E 4, zr E 5, zr E 6, .null, .null, .null, .null, .null, .int 0, .int 0]) (gW_put (n := 6) (by decide) h4 h5) ?_
  clear h4 h5 h3 g0 g1
  refine b_aload_n 59 dX9_init_58 rfl rfl ?_
  refine b_new 62 tyX2 (fs := [.null, .int 0]) tyX2_ok dX9_init_59 rfl (ci := 2) rfl iX2 clX9_43 inX2 iniX2 rfl (by decide) (by decide) ?_
  refine b_dup 63 dX9_init_62 rfl rfl ?_
  refine b_callIN 66 (As := []) (rest := [zr E 8, zr E 0]) (tX2_init (d + 1) (a := 8) (by decide) (zu_same _ _ _)) kiX2 dX9_init_63 rfl liX9_45 rfl rfl (Nat.le_of_ble_eq_true rfl) (by decide) (by decide) (fun _ _ h => h.1) (fun w1 h => ?_)
  obtain ⟨-, g0, g1, h3⟩ := h
  have h4 : ∀ k, k < 8 → w1 k = gW E (rS 1 0) [zr E 1, zr E 2, zr E 3, zr E 4, zr E 5, zr E 6, .null, .null, .null, .null, .null, .int 0, .int 0] k := fun k hk => (h3 k (by omega) (by omega)).trans (zu_ne _ _ (by omega))
  have h5 : ∀ k, 8 ≤ k → k < 10 → w1 k = zC E st0 k := by
    intro k hk1 hk2
    rcases (by omega : k = 8 ∨ k = 9) with rfl | rfl
    · exact g0
    · exact g1
  refine b_putF 69 tyX9 tyX9_ok nmX9 dX9_init_66 rfl (a := 0) (ci := 9) (j := 6) (fs := [zr E 1, zr E 2, zr E 3, zr E 4, zr E 5, zr E 6, .null, .null, .null, .null, .null, .int 0, .int 0]) (by decide) ((h4 0 (by decide)).trans gW_0) rfl iX9 (by decide) fX9_46 rfl rfl rfl (tyX9_ok 6 (by decide)) rfl rfl (by simp) ?_
  refine b_le (gW E (rS 1 0) [zr E 1, zr E 2, zr E 3, zr E 4, zr E 5, zr E 6, zr E 8, .null, .null, .null, .null, .int 0, .int 0]) (gW_put (n := 8) (by decide) h4 h5) ?_
  clear h4 h5 h3 g0 g1
  refine b_aload_n 70 dX9_init_69 rfl rfl ?_
  refine b_new 73 tyX6 (fs := [.null, .null, .int 0, .int 0]) tyX6_ok dX9_init_70 rfl (ci := 6) rfl iX6 clX9_50 inX6 iniX6 rfl (by decide) (by decide) ?_
  refine b_dup 74 dX9_init_73 rfl rfl ?_
  refine b_callIN 77 (As := []) (rest := [zr E 10, zr E 0]) (tX6_init (d + 1) (a := 10) (by decide) (zu_same _ _ _)) kiX6 dX9_init_74 rfl liX9_52 rfl rfl (Nat.le_of_ble_eq_true rfl) (by decide) (by decide) (fun _ _ h => h.1) (fun w2 h => ?_)
  obtain ⟨-, g0, g1, g2, h3⟩ := h
  have h4 : ∀ k, k < 10 → w2 k = gW E (rS 1 0) [zr E 1, zr E 2, zr E 3, zr E 4, zr E 5, zr E 6, zr E 8, .null, .null, .null, .null, .int 0, .int 0] k := fun k hk => (h3 k (by omega) (by omega)).trans (zu_ne _ _ (by omega))
  have h5 : ∀ k, 10 ≤ k → k < 13 → w2 k = zC E st0 k := by
    intro k hk1 hk2
    rcases (by omega : k = 10 ∨ k = 11 ∨ k = 12) with rfl | rfl | rfl
    · exact g0
    · exact g1
    · exact g2
  refine b_putF 80 tyX9 tyX9_ok nmX9 dX9_init_77 rfl (a := 0) (ci := 9) (j := 7) (fs := [zr E 1, zr E 2, zr E 3, zr E 4, zr E 5, zr E 6, zr E 8, .null, .null, .null, .null, .int 0, .int 0]) (by decide) ((h4 0 (by decide)).trans gW_0) rfl iX9 (by decide) fX9_53 rfl rfl rfl (tyX9_ok 7 (by decide)) rfl rfl (by simp) ?_
  refine b_le (gW E (rS 1 0) [zr E 1, zr E 2, zr E 3, zr E 4, zr E 5, zr E 6, zr E 8, zr E 10, .null, .null, .null, .int 0, .int 0]) (gW_put (n := 10) (by decide) h4 h5) ?_
  clear h4 h5 h3 g0 g1 g2
  refine b_aload_n 81 dX9_init_80 rfl rfl ?_
  refine b_new 84 tyX5 (fs := [.null, .null, .null, .null, .null, .int 0, .int 0, .long 0]) tyX5_ok dX9_init_81 rfl (ci := 5) rfl iX5 clX9_57 inX5 iniX5 rfl (by decide) (by decide) ?_
  refine b_dup 85 dX9_init_84 rfl rfl ?_
  refine b_callIN 88 (As := []) (rest := [zr E 13, zr E 0]) (tX5_init (d + 1) (a := 13) (by decide) (zu_same _ _ _)) kiX5 dX9_init_85 rfl liX9_59 rfl rfl (Nat.le_of_ble_eq_true rfl) (by decide) (by decide) (fun _ _ h => h.1) (fun w3 h => ?_)
  obtain ⟨-, g0, g1, g2, g3, g4, g5, h3⟩ := h
  have h4 : ∀ k, k < 13 → w3 k = gW E (rS 1 0) [zr E 1, zr E 2, zr E 3, zr E 4, zr E 5, zr E 6, zr E 8, zr E 10, .null, .null, .null, .int 0, .int 0] k := fun k hk => (h3 k (by omega) (by omega)).trans (zu_ne _ _ (by omega))
  have h5 : ∀ k, 13 ≤ k → k < 19 → w3 k = zC E st0 k := by
    intro k hk1 hk2
    rcases (by omega : k = 13 ∨ k = 14 ∨ k = 15 ∨ k = 16 ∨ k = 17 ∨ k = 18) with rfl | rfl | rfl | rfl | rfl | rfl
    · exact g0
    · exact g1
    · exact g2
    · exact g3
    · exact g4
    · exact g5
  refine b_putF 91 tyX9 tyX9_ok nmX9 dX9_init_88 rfl (a := 0) (ci := 9) (j := 8) (fs := [zr E 1, zr E 2, zr E 3, zr E 4, zr E 5, zr E 6, zr E 8, zr E 10, .null, .null, .null, .int 0, .int 0]) (by decide) ((h4 0 (by decide)).trans gW_0) rfl iX9 (by decide) fX9_60 rfl rfl rfl (tyX9_ok 8 (by decide)) rfl rfl (by simp) ?_
  refine b_le (gW E (rS 1 0) [zr E 1, zr E 2, zr E 3, zr E 4, zr E 5, zr E 6, zr E 8, zr E 10, zr E 13, .null, .null, .int 0, .int 0]) (gW_put (n := 13) (by decide) h4 h5) ?_
  clear h4 h5 h3 g0 g1 g2 g3 g4 g5
  refine b_aload_n 92 dX9_init_91 rfl rfl ?_
  refine b_new 95 tyX8 (fs := [.null, .null, .null, .null, .int 0, .int 0]) tyX8_ok dX9_init_92 rfl (ci := 8) rfl iX8 clX9_64 inX8 iniX8 rfl (by decide) (by decide) ?_
  refine b_dup 96 dX9_init_95 rfl rfl ?_
  refine b_callIN 99 (As := []) (rest := [zr E 19, zr E 0]) (tX8_init (d + 1) (a := 19) (by decide) (zu_same _ _ _)) kiX8 dX9_init_96 rfl liX9_66 rfl rfl (Nat.le_of_ble_eq_true rfl) (by decide) (by decide) (fun _ _ h => h.1) (fun w4 h => ?_)
  obtain ⟨-, g0, g1, g2, g3, g4, h3⟩ := h
  have h4 : ∀ k, k < 19 → w4 k = gW E (rS 1 0) [zr E 1, zr E 2, zr E 3, zr E 4, zr E 5, zr E 6, zr E 8, zr E 10, zr E 13, .null, .null, .int 0, .int 0] k := fun k hk => (h3 k (by omega) (by omega)).trans (zu_ne _ _ (by omega))
  have h5 : ∀ k, 19 ≤ k → k < 24 → w4 k = zC E st0 k := by
    intro k hk1 hk2
    rcases (by omega : k = 19 ∨ k = 20 ∨ k = 21 ∨ k = 22 ∨ k = 23) with rfl | rfl | rfl | rfl | rfl
    · exact g0
    · exact g1
    · exact g2
    · exact g3
    · exact g4
  refine b_putF 102 tyX9 tyX9_ok nmX9 dX9_init_99 rfl (a := 0) (ci := 9) (j := 9) (fs := [zr E 1, zr E 2, zr E 3, zr E 4, zr E 5, zr E 6, zr E 8, zr E 10, zr E 13, .null, .null, .int 0, .int 0]) (by decide) ((h4 0 (by decide)).trans gW_0) rfl iX9 (by decide) fX9_67 rfl rfl rfl (tyX9_ok 9 (by decide)) rfl rfl (by simp) ?_
  refine b_le (gW E (rS 1 0) [zr E 1, zr E 2, zr E 3, zr E 4, zr E 5, zr E 6, zr E 8, zr E 10, zr E 13, zr E 19, .null, .int 0, .int 0]) (gW_put (n := 19) (by decide) h4 h5) ?_
  clear h4 h5 h3 g0 g1 g2 g3 g4
  refine b_iconst (v := nI 0) 103 dX9_init_102 rfl (by decide) ?_
  refine b_istore_n 104 dX9_init_103 rfl (by decide) rfl rfl ?_
  refine lz1 ?_ 6 0 rfl
  refine b_le (gW E (rS 2 0) (fs0 E)) (gW_next (c := 1)) ?_
  refine b_iconst (v := nI 0) 132 dX9_init_131 rfl (by decide) ?_
  refine b_istore_n 133 dX9_init_132 rfl (by decide) rfl rfl ?_
  refine lz2 ?_ 4 0 rfl
  refine b_le (gW E (rS 3 0) (fs0 E)) (gW_next (c := 2)) ?_
  refine b_iconst (v := nI 0) 160 dX9_init_159 rfl (by decide) ?_
  refine b_istore_n 161 dX9_init_160 rfl (by decide) rfl rfl ?_
  refine lz3 ?_ 2 0 rfl
  refine b_le (gW E (rS 4 0) (fs0 E)) (gW_next (c := 3)) ?_
  refine b_iconst (v := nI 0) 186 dX9_init_185 rfl (by decide) ?_
  refine b_istore_n 187 dX9_init_186 rfl (by decide) rfl rfl ?_
  refine lz4 ?_ 8 0 rfl
  refine b_le (gW E (rS 5 0) (fs0 E)) (gW_next (c := 4)) ?_
  refine b_iconst (v := nI 0) 219 dX9_init_218 rfl (by decide) ?_
  refine b_istore_n 220 dX9_init_219 rfl (by decide) rfl rfl ?_
  refine lz5 ?_ 12 0 rfl
  refine b_le (gW E (rS 6 0) (fs0 E)) (gW_next (c := 5)) ?_
  refine b_aload_n 246 dX9_init_245 rfl rfl ?_
  refine b_new 249 tyX4 (fs := [.null, .int 0, .int 0, .int 0, .int 0, .null]) tyX4_ok dX9_init_246 rfl (ci := 4) rfl iX4 clX9_24 inX4 iniX4 rfl (by decide) (by decide) ?_
  refine b_dup 250 dX9_init_249 rfl rfl ?_
  refine b_aload_n 251 dX9_init_250 rfl rfl ?_
  refine b_get 254 dX9_init_251 rfl (a := 0) (ci := 9) (j := 2) (fs := fs0 E) (v := zr E 3) (by decide) (by rw [zu_ne _ _ (by decide)]; exact gW_0) rfl iX9 (by decide) fX9_20 rfl rfl ?_
  refine b_iconst (v := nI 0) 255 dX9_init_254 rfl (by decide) ?_
  refine b_aald 256 dX9_init_255 rfl (a := 3) (n := 2) (t := 4) (x := 44) (C := RX1) (f := rA E 3 2) (by decide) (by rw [zu_ne _ _ (by decide)]; exact gW_c (by decide) (by decide)) rfl (vp_in_nI (by decide) (by decide)) rfl ?_
  refine b_callI 259 (As := [zr E 44]) (rest := [zr E 100, zr E 0]) (tX4_init (d + 1) 44 (a := 100) (by decide) (zu_same _ _ _)) kiX4 dX9_init_256 rfl liX9_75 rfl rfl (Nat.le_of_ble_eq_true rfl) (by decide) (by decide) (fun _ _ h => h.1) (fun w1 h => ?_)
  obtain ⟨-, g0, g1, h3⟩ := h
  have h4 : ∀ k, k < 100 → w1 k = gW E (rS 6 0) (fs0 E) k := fun k hk => (h3 k (by omega) (by omega)).trans (zu_ne _ _ (by omega))
  have h5 : ∀ k, 100 ≤ k → k < 102 → w1 k = zC E st0 k := by
    intro k hk1 hk2
    rcases (by omega : k = 100 ∨ k = 101) with rfl | rfl
    · exact g0
    · exact g1
  refine b_putF 262 tyX9 tyX9_ok nmX9 dX9_init_259 rfl (a := 0) (ci := 9) (j := 10) (fs := fs0 E) (by decide) ((h4 0 (by decide)).trans gW_0) rfl iX9 (by decide) fX9_79 rfl rfl rfl (tyX9_ok 10 (by decide)) rfl rfl (by simp) ?_
  refine b_le (gW E (rS 6 0) [zr E 1, zr E 2, zr E 3, zr E 4, zr E 5, zr E 6, zr E 8, zr E 10, zr E 13, zr E 19, zr E 100, .int 0, .int 0]) (gW_put (n := 100) (by decide) h4 h5) ?_
  exact b_vret dX9_init_262 rfl (by decide) (by decide) ⟨rfl, gW_end E⟩
