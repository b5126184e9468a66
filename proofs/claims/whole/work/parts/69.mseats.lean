/-! seats of the reference, told -/
def cLs (σ : zM) (l : List Nat) : Prop := ∀ j, j < l.length → gi σ 120 j = nI (fnL l j)
def anB (t : Nat → Nat) (p i : Nat) : Bool := (List.range (i - 1)).any (fun j => t (j + 1) == p)
def rsI (t : Nat → Nat) (n p i : Nat) : List Nat := rsL t n p ++ (if anB t p i = true then [p] else [])
theorem rsI_1 (t : Nat → Nat) (n p : Nat) : rsI t n p 1 = rsL t n p := by
  unfold rsI
  rw [show anB t p 1 = false from rfl, if_neg (by decide), List.append_nil]
theorem rsI_n (t : Nat → Nat) (n p : Nat) : rsI t n p n = rsL t n (p + 1) := by
  unfold rsI rsL
  rw [List.range_succ, List.filter_append]
  congr 1
  by_cases h : inO t n p = true
  · rw [List.filter_cons_of_pos h, if_pos (show anB t p n = true from h)]
    rfl
  · rw [List.filter_cons_of_neg h, if_neg (show ¬ anB t p n = true from h)]
    rfl
theorem anB_succ (t : Nat → Nat) (p i : Nat) (h1 : 1 ≤ i) : anB t p (i + 1) = (anB t p i || (t i == p)) := by
  unfold anB
  rw [show i + 1 - 1 = (i - 1) + 1 by omega, List.range_succ, List.any_append]
  congr 1
  show ((t (i - 1 + 1) == p) || false) = _
  rw [Bool.or_false, show i - 1 + 1 = i by omega]
theorem rsL_len (t : Nat → Nat) (n p : Nat) : (rsL t n p).length ≤ p := by
  unfold rsL
  have h := List.length_filter_le (inO t n) (List.range p)
  rw [List.length_range] at h
  exact h
theorem cLs.app {σ : zM} {l : List Nat} {p : Nat} (h : cLs σ l) : cLs (si σ 120 l.length (nI p)) (l ++ [p]) := by
  intro j hj
  have hj : j < l.length + 1 := by
    rw [List.length_append] at hj
    exact hj
  rw [gi_si]
  by_cases e : j = l.length
  · rw [if_pos ⟨rfl, e⟩, e, fnL_app2]
  · rw [if_neg (fun z => e z.2), fnL_app1 (by omega)]
    exact h j (by omega)
set_option maxRecDepth 20000 in
theorem tX10_steps0 {E : zE} {d : Nat} {σ : zM} {n : Nat} (hB : gi σ 102 22 = nI n) (h8 : n ≤ 8) : Ret E mX10_steps d [zr E 102] σ (qI fun x τ => x = nI (n / 2) ∧ τ = σ) := by
  refine Ret.of [some (zr E 102)] (by decide +kernel) (Nat.le_of_ble_eq_true rfl) rfl ?_
  refine z_aload_n 1 dX10_steps_0 rfl rfl ?_
  refine gX10_227 4 rfl dX10_steps_1 rfl ?_
  rw [hB]
  refine z_iconst 5 (v := nI 2) dX10_steps_4 rfl rfl ?_
  refine z_idiv 6 dX10_steps_5 rfl (by decide) ?_
  rw [pk_div (by omega) (by decide) (by decide)]
  refine z_ri dX10_steps_6 rfl ?_
  exact ⟨rfl, rfl⟩
theorem cont_f (i : Nat) : ([0] : List Nat).contains (i + 1) = false := by
  cases h : ([0] : List Nat).contains (i + 1) with
  | false => rfl
  | true =>
    obtain ⟨x, hx, e⟩ := cont_iff.mp h
    have hx : x < 1 := hx
    have e0 : x = 0 := by omega
    rw [e0] at e
    have e : 0 = i + 1 := e
    omega
set_option maxRecDepth 20000 in
theorem tX10_seats {E : zE} {d : Nat} {σ : zM} {S : sS} {r b c : Int32} (hW : WF S) (hX : RM S σ) : Ret E mX10_seats (d + 17) [zr E 102, .int r, .int b, .int c] σ (qM σ (spSeats S r b c)) := by
  have h8 := hW.2.1.1
  have hb8 := bw_le hW (show 0 < 2 by omega)
  by_cases hA : ¬ stOK3 r b c
  · refine Ret.of [some (zr E 102), some (.int r), some (.int b), some (.int c), none, none, none, none] (by decide +kernel) (Nat.le_of_ble_eq_true rfl) rfl ?_
    refine z_iload_n 1 dX10_seats_0 rfl rfl ?_
    refine z_cSI1 4 (tX10_isRow) kX10_isRow dX10_seats_1 rfl lX10_95 (Nat.le_of_ble_eq_true rfl) ?_
    rintro _ _ ⟨e1, e2⟩
    replace e1 := e1.symm
    replace e2 := e2.symm
    subst e1
    subst e2
    refine z_ifb_eq 21 7 dX10_seats_4 (by decide) rfl (fun h4 => ?_) (fun h4 => ?_)
    · refine z_iconst 22 (v := (-1)) dX10_seats_21 rfl rfl ?_
      refine z_ri dX10_seats_22 rfl ?_
      exact qm0 (if_pos hA) hX Fr.rf
    · refine z_iload_n 8 dX10_seats_7 rfl rfl ?_
      refine z_cSI1 11 (tX10_isRow) kX10_isRow dX10_seats_8 rfl lX10_95 (Nat.le_of_ble_eq_true rfl) ?_
      rintro _ _ ⟨e1, e2⟩
      replace e1 := e1.symm
      replace e2 := e2.symm
      subst e1
      subst e2
      refine z_ifb_eq 21 14 dX10_seats_11 (by decide) rfl (fun h11 => ?_) (fun h11 => ?_)
      · refine z_iconst 22 (v := (-1)) dX10_seats_21 rfl rfl ?_
        refine z_ri dX10_seats_22 rfl ?_
        exact qm0 (if_pos hA) hX Fr.rf
      · refine z_iload_n 15 dX10_seats_14 rfl rfl ?_
        refine z_cSI1 18 (tX10_isRow) kX10_isRow dX10_seats_15 rfl lX10_95 (Nat.le_of_ble_eq_true rfl) ?_
        rintro _ _ ⟨e1, e2⟩
        replace e1 := e1.symm
        replace e2 := e2.symm
        subst e1
        subst e2
        refine z_ifb_ne 23 21 dX10_seats_18 (by decide) rfl (fun h18 => ?_) (fun h18 => ?_)
        · exact absurd ⟨h4, h11, h18⟩ hA
        · refine z_iconst 22 (v := (-1)) dX10_seats_21 rfl rfl ?_
          refine z_ri dX10_seats_22 rfl ?_
          exact qm0 (if_pos hA) hX Fr.rf
  have e0 : spSeats S r b c = _ := if_neg hA
  obtain ⟨b1, b2, b3⟩ := Classical.not_not.mp hA
  obtain ⟨r, hr, rfl⟩ := inN_of b1
  obtain ⟨b, hb, rfl⟩ := inN_of b2
  obtain ⟨c, hc, rfl⟩ := inN_of b3
  have b1 : inN (nI r) 6 := inN_nI hr (by omega)
  have b2 : inN (nI b) 6 := inN_nI hb (by omega)
  have b3 : inN (nI c) 6 := inN_nI hc (by omega)
  rw [zx_nI (by omega), zx_nI (by omega), zx_nI (by omega)] at e0
  have hpl := sPd_lt S (sR S r) (sR S b)
  refine Ret.of [some (zr E 102), some (.int (nI r)), some (.int (nI b)), some (.int (nI c)), none, none, none, none] (by decide +kernel) (Nat.le_of_ble_eq_true rfl) rfl ?_
  by_cases hD : sPd S (sR S r) (sR S b) = 0
  · rw [if_neg (fun z => z hD)] at e0
    obtain ⟨q0, p0, hq0, hp0, hpq, hTf, hpw⟩ := sPd0 hD
    obtain ⟨q, hq, hT, hqg⟩ := sTf0 hTf
    have hsz : sSz (sR S r) = q.1 := by rw [hq]; rfl
    have hqq : q0.1 = q.1 := by rw [hq0] at hq; rw [Option.some.inj hq]
    have hp4 : p0.1 ≤ 40 := by
      have h1 := hX.1 b hb
      rw [show S.1 b = sR S b from rfl, hp0] at h1
      exact h1.1
    have hP : PdOK S (sR S b) q.1 := by rw [hp0]; exact pd_of (by omega) hp4 hb8 hpw
    have hpb : ∀ k, k < q.1 → gOf (sR S b) k < sBw S 0 := by
      obtain ⟨p, hp, hpn, hp4, hpv⟩ := hP
      exact fun k hk => (hpv k hk).2
    have n2 := hT.1.1
    have n8 := hT.1.2.1
    have o2 := p24 (show q.1 / 2 ≤ 4 by omega)
    rw [hsz] at e0
    by_cases h6 : 6 < q.1
    · rw [if_pos h6] at e0
      refine z_iload_n 1 dX10_seats_0 rfl rfl ?_
      refine z_cSI1 4 (tX10_isRow) kX10_isRow dX10_seats_1 rfl lX10_95 (Nat.le_of_ble_eq_true rfl) ?_
      rintro _ _ ⟨e1, e2⟩
      replace e1 := e1.symm
      replace e2 := e2.symm
      subst e1
      subst e2
      refine z_ifb_eq 21 7 dX10_seats_4 (by decide) rfl (fun h4 => ?_) (fun h4 => ?_)
      · exact absurd b1 h4
      · refine z_iload_n 8 dX10_seats_7 rfl rfl ?_
        refine z_cSI1 11 (tX10_isRow) kX10_isRow dX10_seats_8 rfl lX10_95 (Nat.le_of_ble_eq_true rfl) ?_
        rintro _ _ ⟨e1, e2⟩
        replace e1 := e1.symm
        replace e2 := e2.symm
        subst e1
        subst e2
        refine z_ifb_eq 21 14 dX10_seats_11 (by decide) rfl (fun h11 => ?_) (fun h11 => ?_)
        · exact absurd b2 h11
        · refine z_iload_n 15 dX10_seats_14 rfl rfl ?_
          refine z_cSI1 18 (tX10_isRow) kX10_isRow dX10_seats_15 rfl lX10_95 (Nat.le_of_ble_eq_true rfl) ?_
          rintro _ _ ⟨e1, e2⟩
          replace e1 := e1.symm
          replace e2 := e2.symm
          subst e1
          subst e2
          refine z_ifb_ne 23 21 dX10_seats_18 (by decide) rfl (fun h18 => ?_) (fun h18 => ?_)
          · refine z_aload_n 24 dX10_seats_23 rfl rfl ?_
            refine z_iload_n 25 dX10_seats_24 rfl rfl ?_
            refine z_iload_n 26 dX10_seats_25 rfl rfl ?_
            refine z_cVI2 29 (tX10_askedPads hW hX hr hb) kX10_askedPads dX10_seats_26 rfl lX10_264 (by first | assumption | rfl) (Nat.le_of_ble_eq_true rfl) ?_
            rintro x1 τ1 hx
            obtain ⟨_, e1, hF1, hX1, hB1⟩ := hx.resolve_right (fun z => z.1 hD)
            subst e1
            rw [hsz] at hB1
            refine zs_istore_4_8 31 rfl dX10_seats_29 rfl rfl ?_
            refine z_iload 33 dX10_seats_31 rfl rfl ?_
            refine z_if_ge 39 36 dX10_seats_33 (by decide) rfl (fun h33 => ?_) (fun h33 => ?_)
            · refine z_aload_n 40 dX10_seats_39 rfl rfl ?_
              refine gX10_227 43 rfl dX10_seats_40 rfl ?_
              rw [hB1.1]
              refine z_bipush 45 (v := nI 6) dX10_seats_43 rfl rfl ?_
              refine z_icmp_le 51 48 dX10_seats_45 (by decide) rfl (fun h45 => ?_) (fun h45 => ?_)
              · (try rw [nI_leI (by omega) (by omega)] at h45)
                omega
              · (try rw [nI_leI (by omega) (by omega)] at h45)
                refine z_bipush 50 (v := (-6)) dX10_seats_48 rfl rfl ?_
                refine z_ri dX10_seats_50 rfl ?_
                exact qm0 e0 hX1 (hF1.mono (by intros; omega))
            · exact absurd (nI_pos' (by decide)) h33
          · exact absurd b3 h18
    · rw [if_neg h6] at e0
      have h6 : q.1 ≤ 6 := by omega
      obtain ⟨A, hA, hA1, hA2⟩ := st_get hW hT h6 hpb
      have hA' : stR2 S (sR S r) (sR S b) = some A := by unfold stR2; rw [hsz]; exact hA
      rw [hA', show stO S (sR S r) c (some A) = sTell (setR S c (some (q.1, fun x => nI (tbL S (gOf (sR S r)) q.1 A.2.2 x)))) A.1 (24 ^ (q.1 / 2)) (nI A.2.1) by show sTell _ _ _ _ = _; unfold whR; rw [hsz]] at e0
      have fill : ∀ i, i ≤ q.1 → ∀ y6 τ0 τ, Fr mS σ τ0 → RM S τ0 → gi τ0 102 22 = nI q.1 → mAcc τ0 S (gOf (sR S r)) q.1 (some A) → Fr (fun x y => x = 104 ∧ y = c ∨ x = 105 ∧ 40 * c ≤ y ∧ y < 40 * c + 40) τ0 τ → gi τ 104 c = nI q.1 → (∀ k, k < i → gi τ 105 (40 * c + k) = nI (tbL S (gOf (sR S r)) q.1 A.2.2 k)) → At E mX10_seats (d + 17) (qM σ (spSeats S (nI r) (nI b) (nI c))) 141 [some (zr E 102), some (.int (nI r)), some (.int (nI b)), some (.int (nI c)), some (.int (nI 0)), some (.int (nI (q.1 - 1))), some (.int (nI i)), y6] [] τ := by
        refine z_up (fun i hi ih y6 τ0 τ hF0 hR0 hn0 hacc hF hs hv => ?_)
        have hn1 : gi τ 102 22 = nI q.1 := (hF.gi (by omega)).trans hn0
        have hacc1 := hacc.fr hF (by omega) (by omega) (by intros; omega)
        by_cases hie : i = q.1
        · rw [hie] at hv ⊢
          have hk : gl τ 102 29 = lN A.1 := hacc1.1
          have hk2 : gi τ 102 30 = nI A.2.1 := (hacc1.2 A rfl).1
          have hX5 : RM (setR S c (some (q.1, fun x => nI (tbL S (gOf (sR S r)) q.1 A.2.2 x)))) τ := hR0.R hW hF hc ⟨by show q.1 ≤ 40; omega, hs, hv⟩
          refine z_iload 143 dX10_seats_141 rfl rfl ?_
          refine z_aload_n 144 dX10_seats_143 rfl rfl ?_
          refine gX10_227 147 rfl dX10_seats_144 rfl ?_
          rw [hn1]
          refine z_icmp_ge 170 150 dX10_seats_147 (by decide) rfl (fun h147 => ?_) (fun h147 => ?_)
          · (try rw [nI_leI (by omega) (by omega)] at h147)
            refine z_aload_n 171 dX10_seats_170 rfl rfl ?_
            refine z_aload_n 172 dX10_seats_171 rfl rfl ?_
            refine gX10_270 175 rfl dX10_seats_172 rfl ?_
            rw [hk]
            refine z_aload_n 176 dX10_seats_175 rfl rfl ?_
            refine z_cVI0 179 (tX10_steps0 hn1 n8) kX10_steps dX10_seats_176 rfl lX10_232 (by first | assumption | rfl) (Nat.le_of_ble_eq_true rfl) ?_
            rintro _ _ ⟨e1, e2⟩
            replace e1 := e1.symm
            replace e2 := e2.symm
            subst e1
            subst e2
            refine z_cSJ1 182 (tX10_whole (by omega)) kX10_whole dX10_seats_179 rfl lX10_244 (Nat.le_of_ble_eq_true rfl) ?_
            rintro _ _ ⟨e1, e2⟩
            replace e1 := e1.symm
            replace e2 := e2.symm
            subst e1
            subst e2
            refine z_aload_n 183 dX10_seats_182 rfl rfl ?_
            refine gX10_273 186 rfl dX10_seats_183 rfl ?_
            rw [hk2]
            refine z_cVI3 189 (tX10_part (by omega) (by omega) (wh_pos _)) kX10_part dX10_seats_186 rfl lX10_248 (by first | assumption | rfl) (Nat.le_of_ble_eq_true rfl) ?_
            rintro _ _ ⟨e1, e2⟩
            replace e1 := e1.symm
            replace e2 := e2.symm
            subst e1
            subst e2
            refine z_ri dX10_seats_189 rfl ?_
            exact qmt (WF_R hW _ _) e0 hX5 ((hF0.mono mS_all).tr hF (fun _ _ h => h) (by intros; omega))
          · (try rw [nI_leI (by omega) (by omega)] at h147)
            omega
        · have hb1 : gi τ 121 i = nI (tbL S (gOf (sR S r)) q.1 A.2.2 i) := (hacc1.2 A rfl).2 i (by omega)
          refine z_iload 143 dX10_seats_141 rfl rfl ?_
          refine z_aload_n 144 dX10_seats_143 rfl rfl ?_
          refine gX10_227 147 rfl dX10_seats_144 rfl ?_
          rw [hn1]
          refine z_icmp_ge 170 150 dX10_seats_147 (by decide) rfl (fun h147 => ?_) (fun h147 => ?_)
          · (try rw [nI_leI (by omega) (by omega)] at h147)
            omega
          · (try rw [nI_leI (by omega) (by omega)] at h147)
            refine z_aload_n 151 dX10_seats_150 rfl rfl ?_
            refine z_iload_n 152 dX10_seats_151 rfl rfl ?_
            refine z_iload 154 dX10_seats_152 rfl rfl ?_
            refine z_aload_n 155 dX10_seats_154 rfl rfl ?_
            refine gX10_69 158 rfl dX10_seats_155 rfl ?_
            refine z_iload 160 dX10_seats_158 rfl rfl ?_
            refine z_ialdn 161 dX10_seats_160 rfl (by first | assumption | rfl) (by omega) ?_
            rw [hb1]
            refine z_cVV3 164 (tX10_setRow (by omega) (by omega)) kX10_setRow dX10_seats_161 rfl lX10_106 (by first | assumption | rfl) (Nat.le_of_ble_eq_true rfl) ?_
            rintro _ e2
            replace e2 := e2.symm
            subst e2
            refine zs_iinc_6_8_1 167 rfl dX10_seats_164 rfl rfl ?_
            rw [nI_add]
            refine z_goto 141 dX10_seats_167 rfl ?_
            exact ih (i + 1) (by omega) (by omega) _ τ0 _ hF0 hR0 hn0 hacc (hF.si _ (by omega)) ((gi_s2 _ _ (by omega)).trans hs) (fun k hk => by
              rw [gi_si]
              by_cases hki : k = i
              · rw [if_pos ⟨rfl, by omega⟩, hki]
              · rw [if_neg (by omega)]; exact hv k (by omega))
      have run : ∀ y6 y7 τ, Fr mS σ τ → RM S τ → mTb τ q.1 (gOf (sR S r)) → cLs τ (rsL (gOf (sR S r)) q.1 (sPc S)) → At E mX10_seats (d + 17) (qM σ (spSeats S (nI r) (nI b) (nI c))) 114 [some (zr E 102), some (.int (nI r)), some (.int (nI b)), some (.int (nI c)), some (.int (nI 0)), some (.int (nI (q.1 - 1))), y6, y7] [] τ := by
        intro y6 y7 τ hF hR hB hL
        have hl := rs_len hT
        have hf : Fr (fun a j => a = 102 ∧ j = 29) τ (sl τ 102 29 (-1)) := Fr.rf.sl _ ⟨rfl, rfl⟩
        have hR1 : RM S (sl τ 102 29 (-1)) := hR.scr hW (hf.mono (by unfold mS; intros; omega))
        have hris : Ris (sl τ 102 29 (-1)) S (gOf (sR S r)) q.1 := fun i hi => by
          refine (hL i (by omega)).trans ?_
          unfold vS fnL
          rw [if_neg (by omega), Nat.add_sub_cancel]
        have hsit := tX10_sit (E := E) hW hT h6 hb hP (q.1 - 1) (d + 6 - (q.1 - 1)) [0] none 0 (sl τ 102 29 (-1)) hR1 (show 1 + (q.1 - 1) = q.1 by omega) (fun x hx => by
          have hx : x < 1 := hx
          have e : x = 0 := by omega
          rw [e]
          exact ⟨show 0 < q.1 by omega, fun y hy => absurd hy (Nat.not_lt_zero y)⟩) (by decide) (fun i hi => by
          rw [Nat.zero_testBit]
          exact (cont_f i).symm) hB.1 (fun x hx => by
          have hx : x < 1 := hx
          have e : x = 0 := by omega
          rw [e]
          exact hB.2 0 (by omega)) hris ⟨gl_s1 _ _ _ _, fun q hq => absurd hq (fun z => nomatch z)⟩ ⟨0, fun q hq => absurd hq (fun z => nomatch z)⟩
        rw [hA, show d + 6 - (q.1 - 1) + 10 + (q.1 - 1) = d + 16 by omega] at hsit
        refine z_aload_n 115 dX10_seats_114 rfl rfl ?_
        refine z_ldc2 118 dX10_seats_115 rfl qX10_259 ?_
        refine pX10_270 121 rfl dX10_seats_118 rfl ?_
        refine z_aload_n 122 dX10_seats_121 rfl rfl ?_
        refine z_iconst 123 (v := nI 1) dX10_seats_122 rfl rfl ?_
        refine z_iconst 124 (v := nI 0) dX10_seats_123 rfl rfl ?_
        refine z_iload_n 125 dX10_seats_124 rfl rfl ?_
        refine z_cVV3 128 (hsit) kX10_sit dX10_seats_125 rfl lX10_276 (by first | assumption | rfl) (Nat.le_of_ble_eq_true rfl) ?_
        rintro τ1 ⟨hF1, hX1, hacc1, _, _⟩
        have hF2 : Fr mS σ τ1 := (hF.tr hf (R := mS) (fun _ _ h => h) (by unfold mS; intros; omega)).tr hF1 (fun _ _ h => h) fSi_mS
        have hn1 : gi τ1 102 22 = nI q.1 := (hF1.gi (by omega)).trans hB.1
        refine z_aload_n 129 dX10_seats_128 rfl rfl ?_
        refine z_iload_n 130 dX10_seats_129 rfl rfl ?_
        refine z_aload_n 131 dX10_seats_130 rfl rfl ?_
        refine gX10_227 134 rfl dX10_seats_131 rfl ?_
        rw [hn1]
        refine z_cVI2 137 (tX10_row0 hc (by omega)) kX10_row dX10_seats_134 rfl lX10_206 (by first | assumption | rfl) (Nat.le_of_ble_eq_true rfl) ?_
        rintro _ τ2 ⟨e2, hF3, hS3⟩
        subst e2
        refine z_pop 138 dX10_seats_137 rfl rfl ?_
        refine z_iconst 139 (v := nI 0) dX10_seats_138 rfl rfl ?_
        refine zs_istore_6_8 141 rfl dX10_seats_139 rfl rfl ?_
        exact fill 0 (Nat.zero_le _) _ τ1 τ2 hF2 hX1 hn1 hacc1 hF3 hS3.2.1 (fun k hk => absurd hk (Nat.not_lt_zero k))
      have outer : ∀ p, p ≤ sPc S → ∀ y7 τ, Fr mS σ τ → RM S τ → mTb τ q.1 (gOf (sR S r)) → cLs τ (rsL (gOf (sR S r)) q.1 p) → At E mX10_seats (d + 17) (qM σ (spSeats S (nI r) (nI b) (nI c))) 57 [some (zr E 102), some (.int (nI r)), some (.int (nI b)), some (.int (nI c)), some (.int (nI 0)), some (.int (nI (rsL (gOf (sR S r)) q.1 p).length)), some (.int (nI p)), y7] [] τ := by
        refine z_up (fun p hp oh y7 τ hF hR hB hL => ?_)
        have hpm : gi τ 102 13 = nI (sPc S) := hR.2.2.2.1.1
        by_cases hpe : p = sPc S
        · rw [hpe] at hL ⊢
          rw [rs_len hT]
          refine z_iload 59 dX10_seats_57 rfl rfl ?_
          refine z_aload_n 60 dX10_seats_59 rfl rfl ?_
          refine gX10_138 63 rfl dX10_seats_60 rfl ?_
          rw [hpm]
          refine z_icmp_ge 114 66 dX10_seats_63 (by decide) rfl (fun h63 => ?_) (fun h63 => ?_)
          · (try rw [nI_leI (by omega) (by omega)] at h63)
            exact run _ _ τ hF hR hB hL
          · (try rw [nI_leI (by omega) (by omega)] at h63)
            omega
        · have hpl2 := rsL_len (gOf (sR S r)) q.1 p
          have inner : ∀ i, i ≤ q.1 → 1 ≤ i → ∀ τ, Fr mS σ τ → RM S τ → mTb τ q.1 (gOf (sR S r)) → cLs τ (rsI (gOf (sR S r)) q.1 p i) → At E mX10_seats (d + 17) (qM σ (spSeats S (nI r) (nI b) (nI c))) 69 [some (zr E 102), some (.int (nI r)), some (.int (nI b)), some (.int (nI c)), some (.int (nI 0)), some (.int (nI (rsI (gOf (sR S r)) q.1 p i).length)), some (.int (nI p)), some (.int (nI i))] [] τ := by
            refine z_up (fun i hi ih i1 τ hF hR hB hL => ?_)
            by_cases hie : i = q.1
            · rw [hie] at hL ⊢
              rw [rsI_n] at hL ⊢
              refine z_iload 71 dX10_seats_69 rfl rfl ?_
              refine z_aload_n 72 dX10_seats_71 rfl rfl ?_
              refine gX10_227 75 rfl dX10_seats_72 rfl ?_
              rw [hB.1]
              refine z_icmp_ge 108 78 dX10_seats_75 (by decide) rfl (fun h75 => ?_) (fun h75 => ?_)
              · (try rw [nI_leI (by omega) (by omega)] at h75)
                refine zs_iinc_6_8_1 111 rfl dX10_seats_108 rfl rfl ?_
                rw [nI_add]
                refine z_goto 57 dX10_seats_111 rfl ?_
                exact oh (p + 1) (by omega) (by omega) _ τ hF hR hB hL
              · (try rw [nI_leI (by omega) (by omega)] at h75)
                omega
            · have hil : i < q.1 := by omega
              have hgv : gi τ 105 (40 * r + i) = nI (gOf (sR S r) i) := by
                have h1 := hR.1 r hr
                rw [show S.1 r = sR S r from rfl, hq] at h1
                exact (h1.2.2 i hil).trans (hqg i hil)
              have ti := (hT.2 i hil).1
              refine z_iload 71 dX10_seats_69 rfl rfl ?_
              refine z_aload_n 72 dX10_seats_71 rfl rfl ?_
              refine gX10_227 75 rfl dX10_seats_72 rfl ?_
              rw [hB.1]
              refine z_icmp_ge 108 78 dX10_seats_75 (by decide) rfl (fun h75 => ?_) (fun h75 => ?_)
              · (try rw [nI_leI (by omega) (by omega)] at h75)
                omega
              · (try rw [nI_leI (by omega) (by omega)] at h75)
                refine z_aload_n 79 dX10_seats_78 rfl rfl ?_
                refine z_iload_n 80 dX10_seats_79 rfl rfl ?_
                refine z_iload 82 dX10_seats_80 rfl rfl ?_
                refine z_cVI2 85 (tX10_rowAt (by omega) (by omega)) kX10_rowAt dX10_seats_82 rfl lX10_113 (by first | assumption | rfl) (Nat.le_of_ble_eq_true rfl) ?_
                rintro _ _ ⟨e1, e2⟩
                replace e1 := e1.symm
                replace e2 := e2.symm
                subst e1
                subst e2
                rw [hgv]
                refine z_iload 87 dX10_seats_85 rfl rfl ?_
                refine z_icmp_ne 102 90 dX10_seats_87 (by decide) rfl (fun h87 => ?_) (fun h87 => ?_)
                · (try rw [nI_eq (by omega) (by omega)] at h87)
                  have er : rsI (gOf (sR S r)) q.1 p (i + 1) = rsI (gOf (sR S r)) q.1 p i := by (unfold rsI; rw [anB_succ _ _ _ i1, beq_eq_false_iff_ne.mpr h87, Bool.or_false])
                  try rw [nI_add]
                  refine zs_iinc_7_8_1 105 rfl dX10_seats_102 rfl rfl ?_
                  rw [nI_add]
                  refine z_goto 69 dX10_seats_105 rfl ?_
                  first
                    | (have hih := ih (i + 1) (by omega) (by omega) (by omega) τ hF hR hB (by rw [er]; exact hL)
                       rw [er] at hih
                       exact hih)
                    | (have hf : Fr (fun a j => a = 120) τ (si τ 120 (rsL (gOf (sR S r)) q.1 p).length (nI p)) := Fr.rf.si _ rfl
                       have hih := ih (i + 1) (by omega) (by omega) (by omega) _ (hF.tr hf (fun _ _ h => h) (by unfold mS; intros; omega)) (hR.scr hW (hf.mono (by unfold mS; intros; omega))) (hB.fr hf (by omega) (by intros; omega)) (by rw [e2]; exact hL.app)
                       rw [e2, List.length_append] at hih
                       exact hih)
                · (try rw [nI_eq (by omega) (by omega)] at h87)
                  have hno : anB (gOf (sR S r)) p i = false := Bool.eq_false_iff.mpr (fun z => by
                      obtain ⟨j, j1, j2⟩ := List.any_eq_true.mp z
                      have j1 := List.mem_range.mp j1
                      exact (hT.2 i hil).2 (j + 1) (by omega) (h87.trans (eq_of_beq j2).symm))
                  have e1 : rsI (gOf (sR S r)) q.1 p i = rsL (gOf (sR S r)) q.1 p := by (unfold rsI; rw [hno, if_neg (by decide), List.append_nil])
                  have e2 : rsI (gOf (sR S r)) q.1 p (i + 1) = rsL (gOf (sR S r)) q.1 p ++ [p] := by (unfold rsI; rw [anB_succ _ _ _ i1, hno, Bool.false_or, h87, beq_self_eq_true, if_pos rfl])
                  rw [e1] at hL ⊢
                  refine z_aload_n 91 dX10_seats_90 rfl rfl ?_
                  refine gX10_66 94 rfl dX10_seats_91 rfl ?_
                  refine z_iload 96 dX10_seats_94 rfl rfl ?_
                  refine z_iload 98 dX10_seats_96 rfl rfl ?_
                  refine z_iastn 99 dX10_seats_98 rfl (by first | assumption | rfl) (by omega) ?_
                  refine zs_iinc_5_8_1 102 rfl dX10_seats_99 rfl rfl ?_
                  try rw [nI_add]
                  refine zs_iinc_7_8_1 105 rfl dX10_seats_102 rfl rfl ?_
                  rw [nI_add]
                  refine z_goto 69 dX10_seats_105 rfl ?_
                  first
                    | (have hih := ih (i + 1) (by omega) (by omega) (by omega) τ hF hR hB (by rw [er]; exact hL)
                       rw [er] at hih
                       exact hih)
                    | (have hf : Fr (fun a j => a = 120) τ (si τ 120 (rsL (gOf (sR S r)) q.1 p).length (nI p)) := Fr.rf.si _ rfl
                       have hih := ih (i + 1) (by omega) (by omega) (by omega) _ (hF.tr hf (fun _ _ h => h) (by unfold mS; intros; omega)) (hR.scr hW (hf.mono (by unfold mS; intros; omega))) (hB.fr hf (by omega) (by intros; omega)) (by rw [e2]; exact hL.app)
                       rw [e2, List.length_append] at hih
                       exact hih)
          refine z_iload 59 dX10_seats_57 rfl rfl ?_
          refine z_aload_n 60 dX10_seats_59 rfl rfl ?_
          refine gX10_138 63 rfl dX10_seats_60 rfl ?_
          rw [hpm]
          refine z_icmp_ge 114 66 dX10_seats_63 (by decide) rfl (fun h63 => ?_) (fun h63 => ?_)
          · (try rw [nI_leI (by omega) (by omega)] at h63)
            omega
          · (try rw [nI_leI (by omega) (by omega)] at h63)
            refine z_iconst 67 (v := nI 1) dX10_seats_66 rfl rfl ?_
            refine zs_istore_7_8 69 rfl dX10_seats_67 rfl rfl ?_
            have hi1 := inner 1 (by omega) (Nat.le_refl _) τ hF hR hB (by rw [rsI_1]; exact hL)
            rw [rsI_1] at hi1
            exact hi1
      refine z_iload_n 1 dX10_seats_0 rfl rfl ?_
      refine z_cSI1 4 (tX10_isRow) kX10_isRow dX10_seats_1 rfl lX10_95 (Nat.le_of_ble_eq_true rfl) ?_
      rintro _ _ ⟨e1, e2⟩
      replace e1 := e1.symm
      replace e2 := e2.symm
      subst e1
      subst e2
      refine z_ifb_eq 21 7 dX10_seats_4 (by decide) rfl (fun h4 => ?_) (fun h4 => ?_)
      · exact absurd b1 h4
      · refine z_iload_n 8 dX10_seats_7 rfl rfl ?_
        refine z_cSI1 11 (tX10_isRow) kX10_isRow dX10_seats_8 rfl lX10_95 (Nat.le_of_ble_eq_true rfl) ?_
        rintro _ _ ⟨e1, e2⟩
        replace e1 := e1.symm
        replace e2 := e2.symm
        subst e1
        subst e2
        refine z_ifb_eq 21 14 dX10_seats_11 (by decide) rfl (fun h11 => ?_) (fun h11 => ?_)
        · exact absurd b2 h11
        · refine z_iload_n 15 dX10_seats_14 rfl rfl ?_
          refine z_cSI1 18 (tX10_isRow) kX10_isRow dX10_seats_15 rfl lX10_95 (Nat.le_of_ble_eq_true rfl) ?_
          rintro _ _ ⟨e1, e2⟩
          replace e1 := e1.symm
          replace e2 := e2.symm
          subst e1
          subst e2
          refine z_ifb_ne 23 21 dX10_seats_18 (by decide) rfl (fun h18 => ?_) (fun h18 => ?_)
          · refine z_aload_n 24 dX10_seats_23 rfl rfl ?_
            refine z_iload_n 25 dX10_seats_24 rfl rfl ?_
            refine z_iload_n 26 dX10_seats_25 rfl rfl ?_
            refine z_cVI2 29 (tX10_askedPads hW hX hr hb) kX10_askedPads dX10_seats_26 rfl lX10_264 (by first | assumption | rfl) (Nat.le_of_ble_eq_true rfl) ?_
            rintro x1 τ1 hx
            obtain ⟨_, e1, hF1, hX1, hB1⟩ := hx.resolve_right (fun z => z.1 hD)
            subst e1
            rw [hsz] at hB1
            refine zs_istore_4_8 31 rfl dX10_seats_29 rfl rfl ?_
            refine z_iload 33 dX10_seats_31 rfl rfl ?_
            refine z_if_ge 39 36 dX10_seats_33 (by decide) rfl (fun h33 => ?_) (fun h33 => ?_)
            · refine z_aload_n 40 dX10_seats_39 rfl rfl ?_
              refine gX10_227 43 rfl dX10_seats_40 rfl ?_
              rw [hB1.1]
              refine z_bipush 45 (v := nI 6) dX10_seats_43 rfl rfl ?_
              refine z_icmp_le 51 48 dX10_seats_45 (by decide) rfl (fun h45 => ?_) (fun h45 => ?_)
              · (try rw [nI_leI (by omega) (by omega)] at h45)
                refine z_iconst 52 (v := nI 0) dX10_seats_51 rfl rfl ?_
                refine zs_istore_5_8 54 rfl dX10_seats_52 rfl rfl ?_
                refine z_iconst 55 (v := nI 0) dX10_seats_54 rfl rfl ?_
                refine zs_istore_6_8 57 rfl dX10_seats_55 rfl rfl ?_
                exact outer 0 (Nat.zero_le _) _ τ1 (hF1.mono fT_mS) hX1 hB1 (fun j hj => absurd hj (Nat.not_lt_zero j))
              · (try rw [nI_leI (by omega) (by omega)] at h45)
                omega
            · exact absurd (nI_pos' (by decide)) h33
          · exact absurd b3 h18
  · rw [if_pos hD] at e0
    refine z_iload_n 1 dX10_seats_0 rfl rfl ?_
    refine z_cSI1 4 (tX10_isRow) kX10_isRow dX10_seats_1 rfl lX10_95 (Nat.le_of_ble_eq_true rfl) ?_
    rintro _ _ ⟨e1, e2⟩
    replace e1 := e1.symm
    replace e2 := e2.symm
    subst e1
    subst e2
    refine z_ifb_eq 21 7 dX10_seats_4 (by decide) rfl (fun h4 => ?_) (fun h4 => ?_)
    · exact absurd b1 h4
    · refine z_iload_n 8 dX10_seats_7 rfl rfl ?_
      refine z_cSI1 11 (tX10_isRow) kX10_isRow dX10_seats_8 rfl lX10_95 (Nat.le_of_ble_eq_true rfl) ?_
      rintro _ _ ⟨e1, e2⟩
      replace e1 := e1.symm
      replace e2 := e2.symm
      subst e1
      subst e2
      refine z_ifb_eq 21 14 dX10_seats_11 (by decide) rfl (fun h11 => ?_) (fun h11 => ?_)
      · exact absurd b2 h11
      · refine z_iload_n 15 dX10_seats_14 rfl rfl ?_
        refine z_cSI1 18 (tX10_isRow) kX10_isRow dX10_seats_15 rfl lX10_95 (Nat.le_of_ble_eq_true rfl) ?_
        rintro _ _ ⟨e1, e2⟩
        replace e1 := e1.symm
        replace e2 := e2.symm
        subst e1
        subst e2
        refine z_ifb_ne 23 21 dX10_seats_18 (by decide) rfl (fun h18 => ?_) (fun h18 => ?_)
        · refine z_aload_n 24 dX10_seats_23 rfl rfl ?_
          refine z_iload_n 25 dX10_seats_24 rfl rfl ?_
          refine z_iload_n 26 dX10_seats_25 rfl rfl ?_
          refine z_cVI2 29 (tX10_askedPads hW hX hr hb) kX10_askedPads dX10_seats_26 rfl lX10_264 (by first | assumption | rfl) (Nat.le_of_ble_eq_true rfl) ?_
          rintro x1 τ1 hx
          obtain ⟨_, e1, τ0, hF0, hX0, e2⟩ := hx.resolve_left (fun z => hD z.1)
          subst e1
          subst e2
          refine zs_istore_4_8 31 rfl dX10_seats_29 rfl rfl ?_
          refine z_iload 33 dX10_seats_31 rfl rfl ?_
          refine z_if_ge 39 36 dX10_seats_33 (by decide) rfl (fun h33 => ?_) (fun h33 => ?_)
          · exact absurd h33 (by decide)
          · refine z_iload 38 dX10_seats_36 rfl rfl ?_
            refine z_ri dX10_seats_38 rfl ?_
            exact qmf hW e0 hpl hX0 hF0
        · exact absurd b3 h18
