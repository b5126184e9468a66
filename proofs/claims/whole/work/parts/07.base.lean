theorem kd_small (a : Nat) : (kd a).2 < 2 ^ 31 := by
  have h : ∀ q ∈ zK, q.2 < 5000 := by decide +kernel
  unfold kd
  rw [List.getD_eq_getElem?_getD]
  cases hq : zK[a]? with
  | none => decide
  | some q => exact Nat.lt_trans (h q (List.mem_of_getElem? hq)) (by decide)
theorem bI_01 (b : Bool) : bI b = 0 ∨ bI b = 1 := by cases b with
  | false => exact Or.inl rfl
  | true => exact Or.inr rfl
theorem nI_lt0 {j : Nat} (h : j < 2 ^ 31) : (nI j < 0) ↔ False := ⟨fun q => nI_pos h q, False.elim⟩
theorem nI_ge0 {j : Nat} (h : j < 2 ^ 31) : (0 ≤ nI j) ↔ True := ⟨fun _ => trivial, fun _ => nI_pos' h⟩
theorem nI_eq0 {j : Nat} (h : j < 2 ^ 31) : (nI j = 0) ↔ j = 0 := by
  have h0 := nI_eq h (show 0 < 2 ^ 31 by decide)
  rwa [nI_0] at h0
theorem nI_gt0 {j : Nat} (h : j < 2 ^ 31) : (0 < nI j) ↔ 0 < j := by
  have h0 := nI_ltI (show 0 < 2 ^ 31 by decide) h
  rwa [nI_0] at h0
theorem nI_le0 {j : Nat} (h : j < 2 ^ 31) : (nI j ≤ 0) ↔ j = 0 := by
  have h0 := nI_leI h (show 0 < 2 ^ 31 by decide)
  rw [nI_0] at h0
  rw [h0]
  omega
theorem nI_mul (a b : Nat) : nI a * nI b = nI (a * b) := (Int32.ofNat_mul a b).symm
/-- a counter that grows to N -/
theorem z_up {N : Nat} {P : Nat → Prop} (h : ∀ i, i ≤ N → (∀ j, i < j → j ≤ N → P j) → P i) : ∀ i, i ≤ N → P i := by
  have main : ∀ n i, i ≤ N → N - i ≤ n → P i := by
    intro n
    induction n with
    | zero => intro i h1 h2; exact h i h1 (fun j h3 h4 => absurd h4 (by omega))
    | succ n ih => intro i h1 h2; exact h i h1 (fun j h3 h4 => ih j h4 (by omega))
  exact fun i hi => main (N - i) i hi (Nat.le_refl _)
section Rows4
variable {E : zE} {M : zY} {d : Nat} {Q : Option Value → zM → Prop} {pc : Nat} {ls : List (Option Value)} {st : List Value} {σ : zM}
theorem z_ri {P : Int32 → zM → Prop} {v : Int32} (hd : decode M.2.1 pc = .ok (.ireturn, 1)) (hr : M.2.2.2 = some .int) (hq : P v σ) : At E M d (qI P) pc ls [.int v] σ := z_iret hd hr ⟨v, rfl, hq⟩
theorem z_rz {P : Int32 → zM → Prop} {v : Int32} (hd : decode M.2.1 pc = .ok (.ireturn, 1)) (hr : M.2.2.2 = some .boolean) (hv : v = 0 ∨ v = 1) (hq : P v σ) : At E M d (qI P) pc ls [.int v] σ := z_zret hd hr hv ⟨v, rfl, hq⟩
theorem z_rl {P : Int64 → zM → Prop} {v : Int64} (hd : decode M.2.1 pc = .ok (.lreturn, 1)) (hr : M.2.2.2 = some .long) (hq : P v σ) : At E M d (qJ P) pc ls [.long v] σ := z_lret hd hr ⟨v, rfl, hq⟩
theorem z_rv {P : zM → Prop} (hd : decode M.2.1 pc = .ok (.return_, 1)) (hr : M.2.2.2 = none) (hq : P σ) : At E M d (qV P) pc ls [] σ := z_vret hd hr ⟨rfl, hq⟩
theorem z_ra {P : Value → zM → Prop} {v : Value} {rt : FieldType} (hd : decode M.2.1 pc = .ok (.areturn, 1)) (hr : M.2.2.2 = some rt) (hrt : (∃ n, rt = .object n) ∨ ∃ t, rt = .array t) (hv : v = .null ∨ ∃ a, v = .ref a) (hq : P v σ) : At E M d (qA P) pc ls [v] σ := z_aret hd hr hrt hv ⟨v, rfl, hq⟩
theorem z_ialdn (pc' : Nat) {a n j : Nat} (hd : decode M.2.1 pc = .ok (.iaload, 1)) (hp : pc + 1 = pc') (hk : kd a = (11, n)) (hj : j < n) (k : At E M d Q pc' ls (.int (gi σ a j) :: st) σ) : At E M d Q pc ls (.int (nI j) :: zr E a :: st) σ := by
  have hn : n < 2 ^ 31 := by have := kd_small a; rwa [hk] at this
  refine z_iald pc' hd hp hk (vp_in_nI hj hn) ?_
  rwa [nI_clamp (Nat.lt_trans hj hn)]
theorem z_laldn (pc' : Nat) {a n j : Nat} (hd : decode M.2.1 pc = .ok (.laload, 1)) (hp : pc + 1 = pc') (hk : kd a = (12, n)) (hj : j < n) (k : At E M d Q pc' ls (.long (gl σ a j) :: st) σ) : At E M d Q pc ls (.int (nI j) :: zr E a :: st) σ := by
  have hn : n < 2 ^ 31 := by have := kd_small a; rwa [hk] at this
  refine z_lald pc' hd hp hk (vp_in_nI hj hn) ?_
  rwa [nI_clamp (Nat.lt_trans hj hn)]
theorem z_zaldn (pc' : Nat) {a n j : Nat} (hd : decode M.2.1 pc = .ok (.baload, 1)) (hp : pc + 1 = pc') (hk : kd a = (13, n)) (hj : j < n) (k : At E M d Q pc' ls (.int (gi σ a j) :: st) σ) : At E M d Q pc ls (.int (nI j) :: zr E a :: st) σ := by
  have hn : n < 2 ^ 31 := by have := kd_small a; rwa [hk] at this
  refine z_zald pc' hd hp hk (vp_in_nI hj hn) ?_
  rwa [nI_clamp (Nat.lt_trans hj hn)]
theorem z_iastn (pc' : Nat) {a n j : Nat} {x : Int32} (hd : decode M.2.1 pc = .ok (.iastore, 1)) (hp : pc + 1 = pc') (hk : kd a = (11, n)) (hj : j < n) (k : At E M d Q pc' ls st (si σ a j x)) : At E M d Q pc ls (.int x :: .int (nI j) :: zr E a :: st) σ := by
  have hn : n < 2 ^ 31 := by have := kd_small a; rwa [hk] at this
  refine z_iast pc' hd hp hk (vp_in_nI hj hn) ?_
  rwa [nI_clamp (Nat.lt_trans hj hn)]
theorem z_zastn (pc' : Nat) {a n j : Nat} {x : Int32} (hd : decode M.2.1 pc = .ok (.bastore, 1)) (hp : pc + 1 = pc') (hk : kd a = (13, n)) (hj : j < n) (hx : x = 0 ∨ x = 1) (k : At E M d Q pc' ls st (si σ a j x)) : At E M d Q pc ls (.int x :: .int (nI j) :: zr E a :: st) σ := by
  have hn : n < 2 ^ 31 := by have := kd_small a; rwa [hk] at this
  refine z_zast pc' hd hp hk (vp_in_nI hj hn) hx ?_
  rwa [nI_clamp (Nat.lt_trans hj hn)]
theorem z_lastn (pc' : Nat) {a n j : Nat} {x : Int64} (hd : decode M.2.1 pc = .ok (.lastore, 1)) (hp : pc + 1 = pc') (hk : kd a = (12, n)) (hj : j < n) (k : At E M d Q pc' ls st (sl σ a j x)) : At E M d Q pc ls (.long x :: .int (nI j) :: zr E a :: st) σ := by
  have hn : n < 2 ^ 31 := by have := kd_small a; rwa [hk] at this
  refine z_last pc' hd hp hk (vp_in_nI hj hn) ?_
  rwa [nI_clamp (Nat.lt_trans hj hn)]
theorem z_aaldn (pc' : Nat) {a n t j : Nat} {C : String} (hd : decode M.2.1 pc = .ok (.aaload, 1)) (hp : pc + 1 = pc') (hk : kd a = (t + 14, n)) (ht : (zT E)[t + 3]? = some (E.2.2.2.2 (t + 3), .object C)) (h9 : t + 14 ≠ 99) (hj : j < n) (k : At E M d Q pc' ls (zr E (zLa a j) :: st) σ) : At E M d Q pc ls (.int (nI j) :: zr E a :: st) σ := by
  have hn : n < 2 ^ 31 := by have := kd_small a; rwa [hk] at this
  refine z_aald pc' hd hp hk ht h9 (vp_in_nI hj hn) ?_
  rwa [nI_clamp (Nat.lt_trans hj hn)]
theorem z_aald1 (pc' : Nat) {j : Nat} (hd : decode M.2.1 pc = .ok (.aaload, 1)) (hp : pc + 1 = pc') (hj : j < 6) (k : At E M d Q pc' ls (zr E (24 + 2 * j) :: st) σ) : At E M d Q pc ls (.int (nI j) :: zr E 1 :: st) σ := z_aaldn pc' (t := 0) (n := 6) hd hp rfl rfl (by decide) hj k
theorem z_aald2 (pc' : Nat) {j : Nat} (hd : decode M.2.1 pc = .ok (.aaload, 1)) (hp : pc + 1 = pc') (hj : j < 4) (k : At E M d Q pc' ls (zr E (36 + 2 * j) :: st) σ) : At E M d Q pc ls (.int (nI j) :: zr E 2 :: st) σ := z_aaldn pc' (t := 0) (n := 4) hd hp rfl rfl (by decide) hj k
theorem z_aald3 (pc' : Nat) {j : Nat} (hd : decode M.2.1 pc = .ok (.aaload, 1)) (hp : pc + 1 = pc') (hj : j < 2) (k : At E M d Q pc' ls (zr E (44 + 2 * j) :: st) σ) : At E M d Q pc ls (.int (nI j) :: zr E 3 :: st) σ := z_aaldn pc' (t := 1) (n := 2) hd hp rfl rfl (by decide) hj k
theorem z_aald4 (pc' : Nat) {j : Nat} (hd : decode M.2.1 pc = .ok (.aaload, 1)) (hp : pc + 1 = pc') (hj : j < 8) (k : At E M d Q pc' ls (zr E (48 + 2 * j) :: st) σ) : At E M d Q pc ls (.int (nI j) :: zr E 4 :: st) σ := z_aaldn pc' (t := 2) (n := 8) hd hp rfl rfl (by decide) hj k
theorem z_aald5 (pc' : Nat) {j : Nat} (hd : decode M.2.1 pc = .ok (.aaload, 1)) (hp : pc + 1 = pc') (hj : j < 12) (k : At E M d Q pc' ls (zr E (64 + 3 * j) :: st) σ) : At E M d Q pc ls (.int (nI j) :: zr E 5 :: st) σ := z_aaldn pc' (t := 3) (n := 12) hd hp rfl rfl (by decide) hj k
theorem z_ifb_eq (tgt pc' : Nat) {p : Prop} {hdp : Decidable p} {off : Int} (hd : decode M.2.1 pc = .ok (.ifCond .eq off, 3)) (ht : (pc : Int) + off = (tgt : Int)) (hp : pc + 3 = pc') (kt : ¬ p → At E M d Q tgt ls st σ) (kf : p → At E M d Q pc' ls st σ) : At E M d Q pc ls (.int (bI (decide p)) :: st) σ := by
  refine z_if_eq tgt pc' hd ht hp (fun h => kt fun q => ?_) (fun h => ?_)
  · rw [decide_eq_true q] at h
    exact absurd h (by decide)
  · by_cases q : p
    · exact kf q
    · rw [decide_eq_false q] at h
      exact absurd rfl h
theorem z_ifb_ne (tgt pc' : Nat) {p : Prop} {hdp : Decidable p} {off : Int} (hd : decode M.2.1 pc = .ok (.ifCond .ne off, 3)) (ht : (pc : Int) + off = (tgt : Int)) (hp : pc + 3 = pc') (kt : p → At E M d Q tgt ls st σ) (kf : ¬ p → At E M d Q pc' ls st σ) : At E M d Q pc ls (.int (bI (decide p)) :: st) σ := by
  refine z_if_ne tgt pc' hd ht hp (fun h => ?_) (fun h => kf fun q => ?_)
  · by_cases q : p
    · exact kt q
    · rw [decide_eq_false q] at h
      exact absurd rfl h
  · rw [decide_eq_true q] at h
    exact absurd h (by decide)
end Rows4
theorem kd_r {r : Nat} (h : r < 6) : (kd (24 + 2 * r)).1 = 7 := by
  have : ∀ r, r < 6 → (kd (24 + 2 * r)).1 = 7 := by decide +kernel
  exact this r h
theorem kd_r1 {r : Nat} (h : r < 6) : kd (24 + 2 * r + 1) = (11, 40) := by
  have : ∀ r, r < 6 → kd (24 + 2 * r + 1) = (11, 40) := by decide +kernel
  exact this r h
theorem kd_t {r : Nat} (h : r < 4) : (kd (36 + 2 * r)).1 = 7 := by
  have : ∀ r, r < 4 → (kd (36 + 2 * r)).1 = 7 := by decide +kernel
  exact this r h
theorem kd_t1 {r : Nat} (h : r < 4) : kd (36 + 2 * r + 1) = (11, 120) := by
  have : ∀ r, r < 4 → kd (36 + 2 * r + 1) = (11, 120) := by decide +kernel
  exact this r h
theorem kd_b {r : Nat} (h : r < 2) : (kd (44 + 2 * r)).1 = 1 := by
  have : ∀ r, r < 2 → (kd (44 + 2 * r)).1 = 1 := by decide +kernel
  exact this r h
theorem kd_b1 {r : Nat} (h : r < 2) : kd (44 + 2 * r + 1) = (11, 80) := by
  have : ∀ r, r < 2 → kd (44 + 2 * r + 1) = (11, 80) := by decide +kernel
  exact this r h
theorem kd_p {r : Nat} (h : r < 8) : (kd (48 + 2 * r)).1 = 4 := by
  have : ∀ r, r < 8 → (kd (48 + 2 * r)).1 = 4 := by decide +kernel
  exact this r h
theorem kd_p1 {r : Nat} (h : r < 8) : kd (48 + 2 * r + 1) = (11, 8) := by
  have : ∀ r, r < 8 → kd (48 + 2 * r + 1) = (11, 8) := by decide +kernel
  exact this r h
theorem kd_e {r : Nat} (h : r < 12) : (kd (64 + 3 * r)).1 = 3 := by
  have : ∀ r, r < 12 → (kd (64 + 3 * r)).1 = 3 := by decide +kernel
  exact this r h
theorem kd_e1 {r : Nat} (h : r < 12) : (kd (64 + 3 * r + 1)).1 = 2 := by
  have : ∀ r, r < 12 → (kd (64 + 3 * r + 1)).1 = 2 := by decide +kernel
  exact this r h
theorem kd_e2 {r : Nat} (h : r < 12) : kd (64 + 3 * r + 1 + 1) = (11, 6) := by
  have : ∀ r, r < 12 → kd (64 + 3 * r + 1 + 1) = (11, 6) := by decide +kernel
  exact this r h
