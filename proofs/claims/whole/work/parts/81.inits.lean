theorem oi : Cond.instanceMethod Lib.objectInit ∈ zTb := zin 21 (by decide +kernel) rfl
theorem oc : Cond.code Lib.objectInit ⟨#[0xb1]⟩ 1 none ∈ zTb := zin 22 (by decide +kernel) rfl
theorem acI : Cond.arrayClass .int ∈ zTb := zin 58 (by decide +kernel) rfl
theorem acL : Cond.arrayClass .long ∈ zTb := zin 137 (by decide +kernel) rfl
theorem acZ : Cond.arrayClass .boolean ∈ zTb := zin 165 (by decide +kernel) rfl
theorem inX0 : Cond.instantiable RX0 5 ∈ zTb := zin 32 (by decide +kernel) rfl
theorem iniX0 : Cond.initialized RX0 ∈ zTb := zin 2 (by decide +kernel) rfl
theorem kiX0 : zCalI mX0_init 0 := ⟨⟨zin 35 (by decide +kernel) rfl, zin 2 (by decide +kernel) rfl, ⟨by decide +kernel, by decide +kernel⟩, by decide +kernel, by decide +kernel⟩, rfl, zin 34 (by decide +kernel) rfl, rfl⟩
theorem inX1 : Cond.instantiable RX1 2 ∈ zTb := zin 186 (by decide +kernel) rfl
theorem iniX1 : Cond.initialized RX1 ∈ zTb := zin 9 (by decide +kernel) rfl
theorem kiX1 : zCalI mX1_init 0 := ⟨⟨zin 189 (by decide +kernel) rfl, zin 9 (by decide +kernel) rfl, ⟨by decide +kernel, by decide +kernel⟩, by decide +kernel, by decide +kernel⟩, rfl, zin 188 (by decide +kernel) rfl, rfl⟩
theorem inX2 : Cond.instantiable RX2 2 ∈ zTb := zin 60 (by decide +kernel) rfl
theorem iniX2 : Cond.initialized RX2 ∈ zTb := zin 3 (by decide +kernel) rfl
theorem kiX2 : zCalI mX2_init 0 := ⟨⟨zin 63 (by decide +kernel) rfl, zin 3 (by decide +kernel) rfl, ⟨by decide +kernel, by decide +kernel⟩, by decide +kernel, by decide +kernel⟩, rfl, zin 62 (by decide +kernel) rfl, rfl⟩
theorem inX3 : Cond.instantiable RX3 6 ∈ zTb := zin 233 (by decide +kernel) rfl
theorem iniX3 : Cond.initialized RX3 ∈ zTb := zin 11 (by decide +kernel) rfl
theorem kiX3 : zCalI mX3_init 0 := ⟨⟨zin 236 (by decide +kernel) rfl, zin 11 (by decide +kernel) rfl, ⟨by decide +kernel, by decide +kernel⟩, by decide +kernel, by decide +kernel⟩, rfl, zin 235 (by decide +kernel) rfl, rfl⟩
theorem inX4 : Cond.instantiable RX4 6 ∈ zTb := zin 200 (by decide +kernel) rfl
theorem iniX4 : Cond.initialized RX4 ∈ zTb := zin 10 (by decide +kernel) rfl
theorem kiX4 : zCalI mX4_init 1 := ⟨⟨zin 203 (by decide +kernel) rfl, zin 10 (by decide +kernel) rfl, ⟨by decide +kernel, by decide +kernel⟩, by decide +kernel, by decide +kernel⟩, rfl, zin 202 (by decide +kernel) rfl, rfl⟩
theorem inX5 : Cond.instantiable RX5 8 ∈ zTb := zin 101 (by decide +kernel) rfl
theorem iniX5 : Cond.initialized RX5 ∈ zTb := zin 5 (by decide +kernel) rfl
theorem kiX5 : zCalI mX5_init 0 := ⟨⟨zin 104 (by decide +kernel) rfl, zin 5 (by decide +kernel) rfl, ⟨by decide +kernel, by decide +kernel⟩, by decide +kernel, by decide +kernel⟩, rfl, zin 103 (by decide +kernel) rfl, rfl⟩
theorem inX6 : Cond.instantiable RX6 4 ∈ zTb := zin 79 (by decide +kernel) rfl
theorem iniX6 : Cond.initialized RX6 ∈ zTb := zin 4 (by decide +kernel) rfl
theorem kiX6 : zCalI mX6_init 0 := ⟨⟨zin 82 (by decide +kernel) rfl, zin 4 (by decide +kernel) rfl, ⟨by decide +kernel, by decide +kernel⟩, by decide +kernel, by decide +kernel⟩, rfl, zin 81 (by decide +kernel) rfl, rfl⟩
theorem inX7 : Cond.instantiable RX7 2 ∈ zTb := zin 166 (by decide +kernel) rfl
theorem iniX7 : Cond.initialized RX7 ∈ zTb := zin 7 (by decide +kernel) rfl
theorem kiX7 : zCalI mX7_init 1 := ⟨⟨zin 169 (by decide +kernel) rfl, zin 7 (by decide +kernel) rfl, ⟨by decide +kernel, by decide +kernel⟩, by decide +kernel, by decide +kernel⟩, rfl, zin 168 (by decide +kernel) rfl, rfl⟩
theorem inX8 : Cond.instantiable RX8 6 ∈ zTb := zin 139 (by decide +kernel) rfl
theorem iniX8 : Cond.initialized RX8 ∈ zTb := zin 6 (by decide +kernel) rfl
theorem kiX8 : zCalI mX8_init 0 := ⟨⟨zin 142 (by decide +kernel) rfl, zin 6 (by decide +kernel) rfl, ⟨by decide +kernel, by decide +kernel⟩, by decide +kernel, by decide +kernel⟩, rfl, zin 141 (by decide +kernel) rfl, rfl⟩
theorem inX9 : Cond.instantiable RX9 13 ∈ zTb := zin 16 (by decide +kernel) rfl
theorem iniX9 : Cond.initialized RX9 ∈ zTb := zin 1 (by decide +kernel) rfl
theorem kiX9 : zCalI mX9_init 0 := ⟨⟨zin 19 (by decide +kernel) rfl, zin 1 (by decide +kernel) rfl, ⟨by decide +kernel, by decide +kernel⟩, by decide +kernel, by decide +kernel⟩, rfl, zin 18 (by decide +kernel) rfl, rfl⟩
theorem inX10 : Cond.instantiable RX10 39 ∈ zTb := zin 903 (by decide +kernel) rfl
theorem iniX10 : Cond.initialized RX10 ∈ zTb := zin 12 (by decide +kernel) rfl
theorem kiX10 : zCalI mX10_init 0 := ⟨⟨zin 906 (by decide +kernel) rfl, zin 12 (by decide +kernel) rfl, ⟨by decide +kernel, by decide +kernel⟩, by decide +kernel, by decide +kernel⟩, rfl, zin 905 (by decide +kernel) rfl, rfl⟩
theorem obX9 : Cond.methodLink RX9 3 Lib.objectInit ∈ zTb := zin 20 (by decide +kernel) rfl
theorem clX9_9 : Cond.classLink RX9 9 RX7 ∈ zTb := zin 23 (by decide +kernel) rfl
theorem clX9_18 : Cond.classLink RX9 18 RX1 ∈ zTb := zin 25 (by decide +kernel) rfl
theorem clX9_24 : Cond.classLink RX9 24 RX4 ∈ zTb := zin 27 (by decide +kernel) rfl
theorem clX9_30 : Cond.classLink RX9 30 RX3 ∈ zTb := zin 29 (by decide +kernel) rfl
theorem clX9_36 : Cond.classLink RX9 36 RX0 ∈ zTb := zin 31 (by decide +kernel) rfl
theorem liX9_38 : Cond.methodLinkNest RX9 38 yX0_init "PadRound" ∈ zTb := zin 33 (by decide +kernel) rfl
theorem obX0 : Cond.methodLink RX0 3 Lib.objectInit ∈ zTb := zin 36 (by decide +kernel) rfl
theorem clX9_43 : Cond.classLink RX9 43 RX2 ∈ zTb := zin 59 (by decide +kernel) rfl
theorem liX9_45 : Cond.methodLinkNest RX9 45 yX2_init "PadRound" ∈ zTb := zin 61 (by decide +kernel) rfl
theorem obX2 : Cond.methodLink RX2 3 Lib.objectInit ∈ zTb := zin 64 (by decide +kernel) rfl
theorem clX9_50 : Cond.classLink RX9 50 RX6 ∈ zTb := zin 78 (by decide +kernel) rfl
theorem liX9_52 : Cond.methodLinkNest RX9 52 yX6_init "PadRound" ∈ zTb := zin 80 (by decide +kernel) rfl
theorem obX6 : Cond.methodLink RX6 3 Lib.objectInit ∈ zTb := zin 83 (by decide +kernel) rfl
theorem clX9_57 : Cond.classLink RX9 57 RX5 ∈ zTb := zin 100 (by decide +kernel) rfl
theorem liX9_59 : Cond.methodLinkNest RX9 59 yX5_init "PadRound" ∈ zTb := zin 102 (by decide +kernel) rfl
theorem obX5 : Cond.methodLink RX5 3 Lib.objectInit ∈ zTb := zin 105 (by decide +kernel) rfl
theorem clX9_64 : Cond.classLink RX9 64 RX8 ∈ zTb := zin 138 (by decide +kernel) rfl
theorem liX9_66 : Cond.methodLinkNest RX9 66 yX8_init "PadRound" ∈ zTb := zin 140 (by decide +kernel) rfl
theorem obX8 : Cond.methodLink RX8 3 Lib.objectInit ∈ zTb := zin 143 (by decide +kernel) rfl
theorem liX9_71 : Cond.methodLink RX9 71 yX7_init ∈ zTb := zin 167 (by decide +kernel) rfl
theorem obX7 : Cond.methodLink RX7 3 Lib.objectInit ∈ zTb := zin 170 (by decide +kernel) rfl
theorem liX9_74 : Cond.methodLinkNest RX9 74 yX1_init "PadRound" ∈ zTb := zin 187 (by decide +kernel) rfl
theorem obX1 : Cond.methodLink RX1 3 Lib.objectInit ∈ zTb := zin 190 (by decide +kernel) rfl
theorem liX9_75 : Cond.methodLink RX9 75 yX4_init ∈ zTb := zin 201 (by decide +kernel) rfl
theorem obX4 : Cond.methodLink RX4 3 Lib.objectInit ∈ zTb := zin 204 (by decide +kernel) rfl
theorem liX9_78 : Cond.methodLinkNest RX9 78 yX3_init "PadRound" ∈ zTb := zin 234 (by decide +kernel) rfl
theorem obX3 : Cond.methodLink RX3 1 Lib.objectInit ∈ zTb := zin 237 (by decide +kernel) rfl
theorem clX3_7 : Cond.classLink RX3 7 RX2 ∈ zTb := zin 238 (by decide +kernel) rfl
theorem liX3_9 : Cond.methodLinkNest RX3 9 yX2_init "PadRound" ∈ zTb := zin 239 (by decide +kernel) rfl
theorem obX10 : Cond.methodLink RX10 1 Lib.objectInit ∈ zTb := zin 907 (by decide +kernel) rfl
section MakeRows2
variable {E : zE} {M : zY} {d mc ms : Nat} {Q : zN → Nat → Prop} {pc : Nat} {ls : List (Option Value)} {st : List Value} {w : zN} {N kc ks : Nat}
theorem b_newI (pc' n : Nat) {i : Int32} (hd : decode M.2.1 pc = .ok (.newarray .int, 2)) (hp : pc + 2 = pc') (hi : ¬ i < 0) (hn : i.toNatClampNeg = n) (hby : n * 4 ≤ 536870912) (h1 : kc + 1 ≤ mc) (h2 : ks + n ≤ ms) (k : Bt E M d mc ms Q pc' ls (zr E N :: st) (zu w N (.inl (E.2.2.2.2 0, n, .inl (fun _ => 0)))) (N + 1) (kc + 1) (ks + n)) : Bt E M d mc ms Q pc ls (.int i :: st) w N kc ks := b_newa pc' (ty := .int) (t := 0) (a0 := (n, .inl (fun _ => 0))) hd hp rfl rfl (fun _ _ h => h) acI (fun _ => rfl) hi hn hby h1 h2 k
theorem b_newL (pc' n : Nat) {i : Int32} (hd : decode M.2.1 pc = .ok (.newarray .long, 2)) (hp : pc + 2 = pc') (hi : ¬ i < 0) (hn : i.toNatClampNeg = n) (hby : n * 8 ≤ 536870912) (h1 : kc + 1 ≤ mc) (h2 : ks + n ≤ ms) (k : Bt E M d mc ms Q pc' ls (zr E N :: st) (zu w N (.inl (E.2.2.2.2 1, n, .inr (.inl (fun _ => 0))))) (N + 1) (kc + 1) (ks + n)) : Bt E M d mc ms Q pc ls (.int i :: st) w N kc ks := b_newa pc' (ty := .long) (t := 1) (a0 := (n, .inr (.inl (fun _ => 0)))) hd hp rfl rfl (fun _ _ h => h) acL (fun _ => rfl) hi hn hby h1 h2 k
theorem b_newZ (pc' n : Nat) {i : Int32} (hd : decode M.2.1 pc = .ok (.newarray .boolean, 2)) (hp : pc + 2 = pc') (hi : ¬ i < 0) (hn : i.toNatClampNeg = n) (hby : n * 1 ≤ 536870912) (h1 : kc + 1 ≤ mc) (h2 : ks + n ≤ ms) (k : Bt E M d mc ms Q pc' ls (zr E N :: st) (zu w N (.inl (E.2.2.2.2 2, n, .inl (fun _ => 0)))) (N + 1) (kc + 1) (ks + n)) : Bt E M d mc ms Q pc ls (.int i :: st) w N kc ks := b_newa pc' (ty := .boolean) (t := 2) (a0 := (n, .inl (fun _ => 0))) hd hp rfl rfl (fun _ _ h => h) acZ (fun _ => rfl) hi hn hby h1 h2 k
end MakeRows2
/-- PadRound$Answers() -/
theorem tX0_init {E : zE} {w : zN} {N a : Nat} (d : Nat) (ha : a < N) (hw : w a = .inr (0, [.null, .int 0, .int 0, .long 0, .long 0])) : Rit E mX0_init d [zr E a] w N (fun w' N' => N' = N + 1 ∧ w' a = .inr (0, [zr E (N), .int 0, .int 0, .long 0, .long 1]) ∧ w' (N) = .inl (E.2.2.2.2 0, 6, .inl (fun _ => 0)) ∧ ∀ k, k < N → k ≠ a → w' k = w k) 1 6 := by
  refine Rit.of [some (zr E a)] (by decide +kernel) rfl (Nat.le_of_ble_eq_true rfl) rfl ?_
  refine b_aload_n 1 dX0_init_0 rfl rfl ?_
  refine b_obj 4 dX0_init_1 rfl obX0 oi oc ?_
  refine b_aload_n 5 dX0_init_4 rfl rfl ?_
  refine b_bipush (v := 6) 7 dX0_init_5 rfl (by decide) ?_
  refine b_newI 9 6 dX0_init_7 rfl (by decide) (by decide) (by decide) (by decide) (by decide) ?_
  refine b_putF 12 tyX0 tyX0_ok nmX0 dX0_init_9 rfl (a := a) (ci := 0) (j := 0) (fs := [.null, .int 0, .int 0, .long 0, .long 0]) (by omega) ((zu_ne _ _ (by omega)).trans hw) rfl iX0 (by decide) fX0_9 rfl rfl rfl (tyX0_ok 0 (by decide)) rfl rfl (by simp) ?_
  refine b_aload_n 13 dX0_init_12 rfl rfl ?_
  refine b_lconst (v := 1) 14 dX0_init_13 rfl (by decide) ?_
  refine b_put 17 tyX0 tyX0_ok nmX0 dX0_init_14 rfl (a := a) (ci := 0) (j := 4) (fs := [zr E (N), .int 0, .int 0, .long 0, .long 0]) (by omega) (zu_same _ _ _) rfl iX0 (by decide) fX0_15 rfl rfl (tyX0_ok 4 (by decide)) rfl rfl (by simp) ?_
  exact b_vret dX0_init_17 rfl (by omega) (by omega) ⟨rfl, (zu_same _ _ _), ((zu_ne _ _ (by omega)).trans ((zu_ne _ _ (by omega)).trans (zu_same _ _ _))), fun k hk hka => ((zu_ne _ _ (by omega)).trans ((zu_ne _ _ (by omega)).trans ((zu_ne _ _ (by omega)).trans rfl)))⟩
/-- PadRound$Box() -/
theorem tX1_init {E : zE} {w : zN} {N a : Nat} (d : Nat) (ha : a < N) (hw : w a = .inr (1, [.null, .int 0])) : Rit E mX1_init d [zr E a] w N (fun w' N' => N' = N + 1 ∧ w' a = .inr (1, [zr E (N), .int 0]) ∧ w' (N) = .inl (E.2.2.2.2 0, 80, .inl (fun _ => 0)) ∧ ∀ k, k < N → k ≠ a → w' k = w k) 1 80 := by
  refine Rit.of [some (zr E a)] (by decide +kernel) rfl (Nat.le_of_ble_eq_true rfl) rfl ?_
  refine b_aload_n 1 dX1_init_0 rfl rfl ?_
  refine b_obj 4 dX1_init_1 rfl obX1 oi oc ?_
  refine b_aload_n 5 dX1_init_4 rfl rfl ?_
  refine b_bipush (v := 80) 7 dX1_init_5 rfl (by decide) ?_
  refine b_newI 9 80 dX1_init_7 rfl (by decide) (by decide) (by decide) (by decide) (by decide) ?_
  refine b_putF 12 tyX1 tyX1_ok nmX1 dX1_init_9 rfl (a := a) (ci := 1) (j := 0) (fs := [.null, .int 0]) (by omega) ((zu_ne _ _ (by omega)).trans hw) rfl iX1 (by decide) fX1_9 rfl rfl rfl (tyX1_ok 0 (by decide)) rfl rfl (by simp) ?_
  exact b_vret dX1_init_12 rfl (by omega) (by omega) ⟨rfl, (zu_same _ _ _), ((zu_ne _ _ (by omega)).trans (zu_same _ _ _)), fun k hk hka => ((zu_ne _ _ (by omega)).trans ((zu_ne _ _ (by omega)).trans rfl))⟩
/-- PadRound$Drawing() -/
theorem tX2_init {E : zE} {w : zN} {N a : Nat} (d : Nat) (ha : a < N) (hw : w a = .inr (2, [.null, .int 0])) : Rit E mX2_init d [zr E a] w N (fun w' N' => N' = N + 1 ∧ w' a = .inr (2, [zr E (N), .int 0]) ∧ w' (N) = .inl (E.2.2.2.2 0, 6, .inl (fun _ => 0)) ∧ ∀ k, k < N → k ≠ a → w' k = w k) 1 6 := by
  refine Rit.of [some (zr E a)] (by decide +kernel) rfl (Nat.le_of_ble_eq_true rfl) rfl ?_
  refine b_aload_n 1 dX2_init_0 rfl rfl ?_
  refine b_obj 4 dX2_init_1 rfl obX2 oi oc ?_
  refine b_aload_n 5 dX2_init_4 rfl rfl ?_
  refine b_bipush (v := 6) 7 dX2_init_5 rfl (by decide) ?_
  refine b_newI 9 6 dX2_init_7 rfl (by decide) (by decide) (by decide) (by decide) (by decide) ?_
  refine b_putF 12 tyX2 tyX2_ok nmX2 dX2_init_9 rfl (a := a) (ci := 2) (j := 0) (fs := [.null, .int 0]) (by omega) ((zu_ne _ _ (by omega)).trans hw) rfl iX2 (by decide) fX2_9 rfl rfl rfl (tyX2_ok 0 (by decide)) rfl rfl (by simp) ?_
  exact b_vret dX2_init_12 rfl (by omega) (by omega) ⟨rfl, (zu_same _ _ _), ((zu_ne _ _ (by omega)).trans (zu_same _ _ _)), fun k hk hka => ((zu_ne _ _ (by omega)).trans ((zu_ne _ _ (by omega)).trans rfl))⟩
/-- PadRound$Player() -/
theorem tX4_init {E : zE} {w : zN} {N a : Nat} (d : Nat) (b : Nat) (ha : a < N) (hw : w a = .inr (4, [.null, .int 0, .int 0, .int 0, .int 0, .null])) : Rit E mX4_init d [zr E a, zr E b] w N (fun w' N' => N' = N + 1 ∧ w' a = .inr (4, [zr E (N), .int 0, .int 0, .int 0, .int 0, zr E b]) ∧ w' (N) = .inl (E.2.2.2.2 0, 8, .inl (fun _ => 0)) ∧ ∀ k, k < N → k ≠ a → w' k = w k) 1 8 := by
  refine Rit.of [some (zr E a), some (zr E b)] (by decide +kernel) rfl (Nat.le_of_ble_eq_true rfl) rfl ?_
  refine b_aload_n 1 dX4_init_0 rfl rfl ?_
  refine b_obj 4 dX4_init_1 rfl obX4 oi oc ?_
  refine b_aload_n 5 dX4_init_4 rfl rfl ?_
  refine b_bipush (v := 8) 7 dX4_init_5 rfl (by decide) ?_
  refine b_newI 9 8 dX4_init_7 rfl (by decide) (by decide) (by decide) (by decide) (by decide) ?_
  refine b_putF 12 tyX4 tyX4_ok nmX4 dX4_init_9 rfl (a := a) (ci := 4) (j := 0) (fs := [.null, .int 0, .int 0, .int 0, .int 0, .null]) (by omega) ((zu_ne _ _ (by omega)).trans hw) rfl iX4 (by decide) fX4_9 rfl rfl rfl (tyX4_ok 0 (by decide)) rfl rfl (by simp) ?_
  refine b_aload_n 13 dX4_init_12 rfl rfl ?_
  refine b_aload_n 14 dX4_init_13 rfl rfl ?_
  refine b_put 17 tyX4 tyX4_ok nmX4 dX4_init_14 rfl (a := a) (ci := 4) (j := 5) (fs := [zr E (N), .int 0, .int 0, .int 0, .int 0, .null]) (by omega) (zu_same _ _ _) rfl iX4 (by decide) fX4_15 rfl rfl (tyX4_ok 5 (by decide)) rfl rfl (by simp) ?_
  exact b_vret dX4_init_17 rfl (by omega) (by omega) ⟨rfl, (zu_same _ _ _), ((zu_ne _ _ (by omega)).trans ((zu_ne _ _ (by omega)).trans (zu_same _ _ _))), fun k hk hka => ((zu_ne _ _ (by omega)).trans ((zu_ne _ _ (by omega)).trans ((zu_ne _ _ (by omega)).trans rfl)))⟩
/-- PadRound$Round() -/
theorem tX5_init {E : zE} {w : zN} {N a : Nat} (d : Nat) (ha : a < N) (hw : w a = .inr (5, [.null, .null, .null, .null, .null, .int 0, .int 0, .long 0])) : Rit E mX5_init d [zr E a] w N (fun w' N' => N' = N + 5 ∧ w' a = .inr (5, [zr E (N), zr E (N + 1), zr E (N + 2), zr E (N + 3), zr E (N + 4), .int 0, .int 0, .long 0]) ∧ w' (N) = .inl (E.2.2.2.2 0, 4096, .inl (fun _ => 0)) ∧ w' (N + 1) = .inl (E.2.2.2.2 0, 8, .inl (fun _ => 0)) ∧ w' (N + 2) = .inl (E.2.2.2.2 0, 8, .inl (fun _ => 0)) ∧ w' (N + 3) = .inl (E.2.2.2.2 1, 8, .inr (.inl (fun _ => 0))) ∧ w' (N + 4) = .inl (E.2.2.2.2 1, 8, .inr (.inl (fun _ => 0))) ∧ ∀ k, k < N → k ≠ a → w' k = w k) 5 4128 := by
  refine Rit.of [some (zr E a)] (by decide +kernel) rfl (Nat.le_of_ble_eq_true rfl) rfl ?_
  refine b_aload_n 1 dX5_init_0 rfl rfl ?_
  refine b_obj 4 dX5_init_1 rfl obX5 oi oc ?_
  refine b_aload_n 5 dX5_init_4 rfl rfl ?_
  refine b_sipush (v := 4096) 8 dX5_init_5 rfl (by decide) ?_
  refine b_newI 10 4096 dX5_init_8 rfl (by decide) (by decide) (by decide) (by decide) (by decide) ?_
  refine b_putF 13 tyX5 tyX5_ok nmX5 dX5_init_10 rfl (a := a) (ci := 5) (j := 0) (fs := [.null, .null, .null, .null, .null, .int 0, .int 0, .long 0]) (by omega) ((zu_ne _ _ (by omega)).trans hw) rfl iX5 (by decide) fX5_9 rfl rfl rfl (tyX5_ok 0 (by decide)) rfl rfl (by simp) ?_
  refine b_aload_n 14 dX5_init_13 rfl rfl ?_
  refine b_bipush (v := 8) 16 dX5_init_14 rfl (by decide) ?_
  refine b_newI 18 8 dX5_init_16 rfl (by decide) (by decide) (by decide) (by decide) (by decide) ?_
  refine b_putF 21 tyX5 tyX5_ok nmX5 dX5_init_18 rfl (a := a) (ci := 5) (j := 1) (fs := [zr E (N), .null, .null, .null, .null, .int 0, .int 0, .long 0]) (by omega) ((zu_ne _ _ (by omega)).trans (zu_same _ _ _)) rfl iX5 (by decide) fX5_15 rfl rfl rfl (tyX5_ok 1 (by decide)) rfl rfl (by simp) ?_
  refine b_aload_n 22 dX5_init_21 rfl rfl ?_
  refine b_bipush (v := 8) 24 dX5_init_22 rfl (by decide) ?_
  refine b_newI 26 8 dX5_init_24 rfl (by decide) (by decide) (by decide) (by decide) (by decide) ?_
  refine b_putF 29 tyX5 tyX5_ok nmX5 dX5_init_26 rfl (a := a) (ci := 5) (j := 2) (fs := [zr E (N), zr E (N + 1), .null, .null, .null, .int 0, .int 0, .long 0]) (by omega) ((zu_ne _ _ (by omega)).trans (zu_same _ _ _)) rfl iX5 (by decide) fX5_18 rfl rfl rfl (tyX5_ok 2 (by decide)) rfl rfl (by simp) ?_
  refine b_aload_n 30 dX5_init_29 rfl rfl ?_
  refine b_bipush (v := 8) 32 dX5_init_30 rfl (by decide) ?_
  refine b_newL 34 8 dX5_init_32 rfl (by decide) (by decide) (by decide) (by decide) (by decide) ?_
  refine b_putF 37 tyX5 tyX5_ok nmX5 dX5_init_34 rfl (a := a) (ci := 5) (j := 3) (fs := [zr E (N), zr E (N + 1), zr E (N + 2), .null, .null, .int 0, .int 0, .long 0]) (by omega) ((zu_ne _ _ (by omega)).trans (zu_same _ _ _)) rfl iX5 (by decide) fX5_21 rfl rfl rfl (tyX5_ok 3 (by decide)) rfl rfl (by simp) ?_
  refine b_aload_n 38 dX5_init_37 rfl rfl ?_
  refine b_bipush (v := 8) 40 dX5_init_38 rfl (by decide) ?_
  refine b_newL 42 8 dX5_init_40 rfl (by decide) (by decide) (by decide) (by decide) (by decide) ?_
  refine b_putF 45 tyX5 tyX5_ok nmX5 dX5_init_42 rfl (a := a) (ci := 5) (j := 4) (fs := [zr E (N), zr E (N + 1), zr E (N + 2), zr E (N + 3), .null, .int 0, .int 0, .long 0]) (by omega) ((zu_ne _ _ (by omega)).trans (zu_same _ _ _)) rfl iX5 (by decide) fX5_25 rfl rfl rfl (tyX5_ok 4 (by decide)) rfl rfl (by simp) ?_
  exact b_vret dX5_init_45 rfl (by omega) (by omega) ⟨rfl, (zu_same _ _ _), ((zu_ne _ _ (by omega)).trans ((zu_ne _ _ (by omega)).trans ((zu_ne _ _ (by omega)).trans ((zu_ne _ _ (by omega)).trans ((zu_ne _ _ (by omega)).trans ((zu_ne _ _ (by omega)).trans ((zu_ne _ _ (by omega)).trans ((zu_ne _ _ (by omega)).trans ((zu_ne _ _ (by omega)).trans (zu_same _ _ _)))))))))), ((zu_ne _ _ (by omega)).trans ((zu_ne _ _ (by omega)).trans ((zu_ne _ _ (by omega)).trans ((zu_ne _ _ (by omega)).trans ((zu_ne _ _ (by omega)).trans ((zu_ne _ _ (by omega)).trans ((zu_ne _ _ (by omega)).trans (zu_same _ _ _)))))))), ((zu_ne _ _ (by omega)).trans ((zu_ne _ _ (by omega)).trans ((zu_ne _ _ (by omega)).trans ((zu_ne _ _ (by omega)).trans ((zu_ne _ _ (by omega)).trans (zu_same _ _ _)))))), ((zu_ne _ _ (by omega)).trans ((zu_ne _ _ (by omega)).trans ((zu_ne _ _ (by omega)).trans (zu_same _ _ _)))), ((zu_ne _ _ (by omega)).trans (zu_same _ _ _)), fun k hk hka => ((zu_ne _ _ (by omega)).trans ((zu_ne _ _ (by omega)).trans ((zu_ne _ _ (by omega)).trans ((zu_ne _ _ (by omega)).trans ((zu_ne _ _ (by omega)).trans ((zu_ne _ _ (by omega)).trans ((zu_ne _ _ (by omega)).trans ((zu_ne _ _ (by omega)).trans ((zu_ne _ _ (by omega)).trans ((zu_ne _ _ (by omega)).trans rfl))))))))))⟩
/-- PadRound$Shares() -/
theorem tX6_init {E : zE} {w : zN} {N a : Nat} (d : Nat) (ha : a < N) (hw : w a = .inr (6, [.null, .null, .int 0, .int 0])) : Rit E mX6_init d [zr E a] w N (fun w' N' => N' = N + 2 ∧ w' a = .inr (6, [zr E (N), zr E (N + 1), .int 0, .int 0]) ∧ w' (N) = .inl (E.2.2.2.2 0, 8, .inl (fun _ => 0)) ∧ w' (N + 1) = .inl (E.2.2.2.2 0, 8, .inl (fun _ => 0)) ∧ ∀ k, k < N → k ≠ a → w' k = w k) 2 16 := by
  refine Rit.of [some (zr E a)] (by decide +kernel) rfl (Nat.le_of_ble_eq_true rfl) rfl ?_
  refine b_aload_n 1 dX6_init_0 rfl rfl ?_
  refine b_obj 4 dX6_init_1 rfl obX6 oi oc ?_
  refine b_aload_n 5 dX6_init_4 rfl rfl ?_
  refine b_bipush (v := 8) 7 dX6_init_5 rfl (by decide) ?_
  refine b_newI 9 8 dX6_init_7 rfl (by decide) (by decide) (by decide) (by decide) (by decide) ?_
  refine b_putF 12 tyX6 tyX6_ok nmX6 dX6_init_9 rfl (a := a) (ci := 6) (j := 0) (fs := [.null, .null, .int 0, .int 0]) (by omega) ((zu_ne _ _ (by omega)).trans hw) rfl iX6 (by decide) fX6_9 rfl rfl rfl (tyX6_ok 0 (by decide)) rfl rfl (by simp) ?_
  refine b_aload_n 13 dX6_init_12 rfl rfl ?_
  refine b_bipush (v := 8) 15 dX6_init_13 rfl (by decide) ?_
  refine b_newI 17 8 dX6_init_15 rfl (by decide) (by decide) (by decide) (by decide) (by decide) ?_
  refine b_putF 20 tyX6 tyX6_ok nmX6 dX6_init_17 rfl (a := a) (ci := 6) (j := 1) (fs := [zr E (N), .null, .int 0, .int 0]) (by omega) ((zu_ne _ _ (by omega)).trans (zu_same _ _ _)) rfl iX6 (by decide) fX6_15 rfl rfl rfl (tyX6_ok 1 (by decide)) rfl rfl (by simp) ?_
  exact b_vret dX6_init_20 rfl (by omega) (by omega) ⟨rfl, (zu_same _ _ _), ((zu_ne _ _ (by omega)).trans ((zu_ne _ _ (by omega)).trans ((zu_ne _ _ (by omega)).trans (zu_same _ _ _)))), ((zu_ne _ _ (by omega)).trans (zu_same _ _ _)), fun k hk hka => ((zu_ne _ _ (by omega)).trans ((zu_ne _ _ (by omega)).trans ((zu_ne _ _ (by omega)).trans ((zu_ne _ _ (by omega)).trans rfl))))⟩
/-- PadRound$Sheet() -/
theorem tX7_init {E : zE} {w : zN} {N a : Nat} (d : Nat) (m : Nat) (hm : m < 1000) (ha : a < N) (hw : w a = .inr (7, [.null, .int 0])) : Rit E mX7_init d [zr E a, .int (nI m)] w N (fun w' N' => N' = N + 1 ∧ w' a = .inr (7, [zr E (N), .int (-1)]) ∧ w' (N) = .inl (E.2.2.2.2 0, m, .inl (fun _ => 0)) ∧ ∀ k, k < N → k ≠ a → w' k = w k) 1 m := by
  refine Rit.of [some (zr E a), some (.int (nI m))] (by decide +kernel) rfl (Nat.le_of_ble_eq_true rfl) rfl ?_
  have hmx : (if nI m < 0 then (0 : Int32) else nI m) = nI m := if_neg (nI_pos (by omega))
  have hm1 : ¬ nI m < 0 := nI_pos (by omega)
  have hm2 : (nI m).toNatClampNeg = m := nI_clamp (by omega)
  refine b_aload_n 1 dX7_init_0 rfl rfl ?_
  refine b_obj 4 dX7_init_1 rfl obX7 oi oc ?_
  refine b_aload_n 5 dX7_init_4 rfl rfl ?_
  refine b_iconst (v := -1) 6 dX7_init_5 rfl (by decide) ?_
  refine b_put 9 tyX7 tyX7_ok nmX7 dX7_init_6 rfl (a := a) (ci := 7) (j := 1) (fs := [.null, .int 0]) (by omega) hw rfl iX7 (by decide) fX7_9 rfl rfl (tyX7_ok 1 (by decide)) rfl rfl (by simp) ?_
  refine b_aload_n 10 dX7_init_9 rfl rfl ?_
  refine b_iload_n 11 dX7_init_10 rfl rfl ?_
  refine b_iconst (v := 0) 12 dX7_init_11 rfl (by decide) ?_
  refine b_mmax 15 dX7_init_12 rfl lX7_15 kM_max_s kM_i kM_max_c (Nat.le_of_ble_eq_true rfl) (Nat.zero_le _) (Nat.zero_le _) ?_
  rw [hmx]
  refine b_newI 17 m dX7_init_15 rfl hm1 hm2 (by omega) (by omega) (by omega) ?_
  refine b_putF 20 tyX7 tyX7_ok nmX7 dX7_init_17 rfl (a := a) (ci := 7) (j := 0) (fs := [.null, .int (-1)]) (by omega) ((zu_ne _ _ (by omega)).trans (zu_same _ _ _)) rfl iX7 (by decide) fX7_21 rfl rfl rfl (tyX7_ok 0 (by decide)) rfl rfl (by simp) ?_
  exact b_vret dX7_init_20 rfl (by omega) (by omega) ⟨rfl, (zu_same _ _ _), ((zu_ne _ _ (by omega)).trans (zu_same _ _ _)), fun k hk hka => ((zu_ne _ _ (by omega)).trans ((zu_ne _ _ (by omega)).trans ((zu_ne _ _ (by omega)).trans rfl)))⟩
/-- PadRound$Watch() -/
theorem tX8_init {E : zE} {w : zN} {N a : Nat} (d : Nat) (ha : a < N) (hw : w a = .inr (8, [.null, .null, .null, .null, .int 0, .int 0])) : Rit E mX8_init d [zr E a] w N (fun w' N' => N' = N + 4 ∧ w' a = .inr (8, [zr E (N), zr E (N + 1), zr E (N + 2), zr E (N + 3), .int 0, .int 0]) ∧ w' (N) = .inl (E.2.2.2.2 0, 6, .inl (fun _ => 0)) ∧ w' (N + 1) = .inl (E.2.2.2.2 0, 6, .inl (fun _ => 0)) ∧ w' (N + 2) = .inl (E.2.2.2.2 0, 6, .inl (fun _ => 0)) ∧ w' (N + 3) = .inl (E.2.2.2.2 2, 64, .inl (fun _ => 0)) ∧ ∀ k, k < N → k ≠ a → w' k = w k) 4 82 := by
  refine Rit.of [some (zr E a)] (by decide +kernel) rfl (Nat.le_of_ble_eq_true rfl) rfl ?_
  refine b_aload_n 1 dX8_init_0 rfl rfl ?_
  refine b_obj 4 dX8_init_1 rfl obX8 oi oc ?_
  refine b_aload_n 5 dX8_init_4 rfl rfl ?_
  refine b_bipush (v := 6) 7 dX8_init_5 rfl (by decide) ?_
  refine b_newI 9 6 dX8_init_7 rfl (by decide) (by decide) (by decide) (by decide) (by decide) ?_
  refine b_putF 12 tyX8 tyX8_ok nmX8 dX8_init_9 rfl (a := a) (ci := 8) (j := 0) (fs := [.null, .null, .null, .null, .int 0, .int 0]) (by omega) ((zu_ne _ _ (by omega)).trans hw) rfl iX8 (by decide) fX8_9 rfl rfl rfl (tyX8_ok 0 (by decide)) rfl rfl (by simp) ?_
  refine b_aload_n 13 dX8_init_12 rfl rfl ?_
  refine b_bipush (v := 6) 15 dX8_init_13 rfl (by decide) ?_
  refine b_newI 17 6 dX8_init_15 rfl (by decide) (by decide) (by decide) (by decide) (by decide) ?_
  refine b_putF 20 tyX8 tyX8_ok nmX8 dX8_init_17 rfl (a := a) (ci := 8) (j := 1) (fs := [zr E (N), .null, .null, .null, .int 0, .int 0]) (by omega) ((zu_ne _ _ (by omega)).trans (zu_same _ _ _)) rfl iX8 (by decide) fX8_15 rfl rfl rfl (tyX8_ok 1 (by decide)) rfl rfl (by simp) ?_
  refine b_aload_n 21 dX8_init_20 rfl rfl ?_
  refine b_bipush (v := 6) 23 dX8_init_21 rfl (by decide) ?_
  refine b_newI 25 6 dX8_init_23 rfl (by decide) (by decide) (by decide) (by decide) (by decide) ?_
  refine b_putF 28 tyX8 tyX8_ok nmX8 dX8_init_25 rfl (a := a) (ci := 8) (j := 2) (fs := [zr E (N), zr E (N + 1), .null, .null, .int 0, .int 0]) (by omega) ((zu_ne _ _ (by omega)).trans (zu_same _ _ _)) rfl iX8 (by decide) fX8_18 rfl rfl rfl (tyX8_ok 2 (by decide)) rfl rfl (by simp) ?_
  refine b_aload_n 29 dX8_init_28 rfl rfl ?_
  refine b_bipush (v := 64) 31 dX8_init_29 rfl (by decide) ?_
  refine b_newZ 33 64 dX8_init_31 rfl (by decide) (by decide) (by decide) (by decide) (by decide) ?_
  refine b_putF 36 tyX8 tyX8_ok nmX8 dX8_init_33 rfl (a := a) (ci := 8) (j := 3) (fs := [zr E (N), zr E (N + 1), zr E (N + 2), .null, .int 0, .int 0]) (by omega) ((zu_ne _ _ (by omega)).trans (zu_same _ _ _)) rfl iX8 (by decide) fX8_21 rfl rfl rfl (tyX8_ok 3 (by decide)) rfl rfl (by simp) ?_
  exact b_vret dX8_init_36 rfl (by omega) (by omega) ⟨rfl, (zu_same _ _ _), ((zu_ne _ _ (by omega)).trans ((zu_ne _ _ (by omega)).trans ((zu_ne _ _ (by omega)).trans ((zu_ne _ _ (by omega)).trans ((zu_ne _ _ (by omega)).trans ((zu_ne _ _ (by omega)).trans ((zu_ne _ _ (by omega)).trans (zu_same _ _ _)))))))), ((zu_ne _ _ (by omega)).trans ((zu_ne _ _ (by omega)).trans ((zu_ne _ _ (by omega)).trans ((zu_ne _ _ (by omega)).trans ((zu_ne _ _ (by omega)).trans (zu_same _ _ _)))))), ((zu_ne _ _ (by omega)).trans ((zu_ne _ _ (by omega)).trans ((zu_ne _ _ (by omega)).trans (zu_same _ _ _)))), ((zu_ne _ _ (by omega)).trans (zu_same _ _ _)), fun k hk hka => ((zu_ne _ _ (by omega)).trans ((zu_ne _ _ (by omega)).trans ((zu_ne _ _ (by omega)).trans ((zu_ne _ _ (by omega)).trans ((zu_ne _ _ (by omega)).trans ((zu_ne _ _ (by omega)).trans ((zu_ne _ _ (by omega)).trans ((zu_ne _ _ (by omega)).trans rfl))))))))⟩
