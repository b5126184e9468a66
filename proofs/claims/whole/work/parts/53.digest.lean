/-! digest -/
def mx (h : Int64) (v : Int32) : Int64 := 31 * h + v.toInt64
def fmx (f : Nat → Int32) (h : Int64) : Nat → Int64
  | 0 => h
  | n + 1 => mx (fmx f h n) (f n)
def rwD (o : sRow) (h : Int64) : Int64 := match o with
  | none => mx h (-1)
  | some q => fmx q.2 (mx h (nI q.1)) q.1
def bxD (bw : Nat) (u : Nat → Nat → Nat) (h : Int64) : Int64 := fmx (fun i => nI (u (i / 10) (i % 10))) (mx h (if bw = 0 then -1 else nI bw)) (10 * bw)
def bD (S : sS) (h : Int64) : Nat → Int64
  | 0 => h
  | n + 1 => bxD (sBw S n) (sUs S n) (bD S h n)
def rD (f : Nat → sRow) (h : Int64) : Nat → Int64
  | 0 => h
  | n + 1 => rwD (f n) (rD f h n)
def cV (S : sS) (j : Nat) : Int32 := nI (ctV S j)
def plV (S : sS) (k : Nat) : Int32 := nI (plf (sPl S (k / 4)) (k % 4))
def lvV (S : sS) (k : Nat) : Int32 := lfV (sLf S (k / 5)) (k % 5)
def dg1 (S : sS) : Int64 := fmx (cV S) 17 8
def dg2 (S : sS) : Int64 := bD S (dg1 S) 2
def dg3 (S : sS) : Int64 := fmx (plV S) (dg2 S) (4 * sPc S)
def dg4 (S : sS) : Int64 := fmx (lvV S) (dg3 S) (5 * sLc S)
def dg5 (S : sS) : Int64 := rD (sR S) (dg4 S) 6
def dg6 (S : sS) : Int64 := rD (sT S) (dg5 S) 4
theorem plV_at (S : sS) {p j : Nat} (hj : j < 4) : plV S (4 * p + j) = nI (plf (sPl S p) j) := by
  unfold plV
  rw [show (4 * p + j) / 4 = p by omega, show (4 * p + j) % 4 = j by omega]
theorem lvV_at (S : sS) {p j : Nat} (hj : j < 5) : lvV S (5 * p + j) = lfV (sLf S p) j := by
  unfold lvV
  rw [show (5 * p + j) / 5 = p by omega, show (5 * p + j) % 5 = j by omega]
set_option maxRecDepth 20000 in
theorem tX7_digestOn {E : zE} {d : Nat} {σ : zM} {a cap : Nat} {o : sRow} {h : Int64} (hk : (kd a).1 = 7) (hk1 : kd (a + 1) = (11, cap)) (hS : Sh σ a cap o) : Ret E mX7_digestOn d [zr E a, .long h] σ (qJ fun x τ => x = rwD o h ∧ τ = σ) := by
  have hc := cap_lt hk1
  refine Ret.of [some (zr E a), some (.long h), none, none, none, none] (by decide +kernel) (Nat.le_of_ble_eq_true rfl) rfl ?_
  cases o with
  | none =>
    have hs : gi σ a 1 = -1 := hS
    refine z_ldc2 3 dX7_digestOn_0 rfl qX7_45 ?_
    refine z_lload_n 4 dX7_digestOn_3 rfl rfl ?_
    refine z_lmul 5 dX7_digestOn_4 rfl ?_
    refine z_aload_n 6 dX7_digestOn_5 rfl rfl ?_
    refine gX7_9 9 rfl dX7_digestOn_6 rfl (by first | assumption | rfl) ?_
    rw [hs]
    refine z_i2l 10 dX7_digestOn_9 rfl ?_
    refine z_ladd 11 dX7_digestOn_10 rfl ?_
    refine zs_lstore_n_3_6 12 rfl dX7_digestOn_11 rfl rfl ?_
    refine z_iconst 13 (v := nI 0) dX7_digestOn_12 rfl rfl ?_
    refine zs_istore_5_6 15 rfl dX7_digestOn_13 rfl rfl ?_
    refine z_iload 17 dX7_digestOn_15 rfl rfl ?_
    refine z_aload_n 18 dX7_digestOn_17 rfl rfl ?_
    refine gX7_9 21 rfl dX7_digestOn_18 rfl (by first | assumption | rfl) ?_
    rw [hs]
    refine z_icmp_ge 45 24 dX7_digestOn_21 (by decide) rfl (fun h21 => ?_) (fun h21 => ?_)
    · refine z_lload_n 46 dX7_digestOn_45 rfl rfl ?_
      refine z_rl dX7_digestOn_46 rfl ?_
      exact ⟨rfl, rfl⟩
    · exact absurd (by decide) h21
  | some q =>
    obtain ⟨c1, hs, c3⟩ := hS
    have loop : ∀ i, i ≤ q.1 → At E mX7_digestOn d (qJ fun x τ => x = rwD (some q) h ∧ τ = σ) 15 [some (zr E a), some (.long h), none, some (.long (fmx q.2 (mx h (nI q.1)) i)), none, some (.int (nI i))] [] σ := by
      refine z_up (fun i hi ih => ?_)
      by_cases hie : i = q.1
      · rw [hie]
        refine z_iload 17 dX7_digestOn_15 rfl rfl ?_
        refine z_aload_n 18 dX7_digestOn_17 rfl rfl ?_
        refine gX7_9 21 rfl dX7_digestOn_18 rfl (by first | assumption | rfl) ?_
        rw [hs]
        refine z_icmp_ge 45 24 dX7_digestOn_21 (by decide) rfl (fun h21 => ?_) (fun h21 => ?_)
        · (try rw [nI_leI (by omega) (by omega)] at h21)
          refine z_lload_n 46 dX7_digestOn_45 rfl rfl ?_
          refine z_rl dX7_digestOn_46 rfl ?_
          exact ⟨rfl, rfl⟩
        · (try rw [nI_leI (by omega) (by omega)] at h21)
          omega
      · refine z_iload 17 dX7_digestOn_15 rfl rfl ?_
        refine z_aload_n 18 dX7_digestOn_17 rfl rfl ?_
        refine gX7_9 21 rfl dX7_digestOn_18 rfl (by first | assumption | rfl) ?_
        rw [hs]
        refine z_icmp_ge 45 24 dX7_digestOn_21 (by decide) rfl (fun h21 => ?_) (fun h21 => ?_)
        · (try rw [nI_leI (by omega) (by omega)] at h21)
          omega
        · (try rw [nI_leI (by omega) (by omega)] at h21)
          refine z_ldc2 27 dX7_digestOn_24 rfl qX7_45 ?_
          refine z_lload_n 28 dX7_digestOn_27 rfl rfl ?_
          refine z_lmul 29 dX7_digestOn_28 rfl ?_
          refine z_aload_n 30 dX7_digestOn_29 rfl rfl ?_
          refine gX7_21 33 rfl dX7_digestOn_30 rfl (by first | assumption | rfl) ?_
          refine z_iload 35 dX7_digestOn_33 rfl rfl ?_
          refine z_ialdn 36 dX7_digestOn_35 rfl (by first | assumption | rfl) (by omega) ?_
          rw [c3 i (by omega)]
          refine z_i2l 37 dX7_digestOn_36 rfl ?_
          refine z_ladd 38 dX7_digestOn_37 rfl ?_
          refine zs_lstore_n_3_6 39 rfl dX7_digestOn_38 rfl rfl ?_
          refine zs_iinc_5_6_1 42 rfl dX7_digestOn_39 rfl rfl ?_
          rw [nI_add]
          refine z_goto 15 dX7_digestOn_42 rfl ?_
          exact ih (i + 1) (by omega) (by omega)
    refine z_ldc2 3 dX7_digestOn_0 rfl qX7_45 ?_
    refine z_lload_n 4 dX7_digestOn_3 rfl rfl ?_
    refine z_lmul 5 dX7_digestOn_4 rfl ?_
    refine z_aload_n 6 dX7_digestOn_5 rfl rfl ?_
    refine gX7_9 9 rfl dX7_digestOn_6 rfl (by first | assumption | rfl) ?_
    rw [hs]
    refine z_i2l 10 dX7_digestOn_9 rfl ?_
    refine z_ladd 11 dX7_digestOn_10 rfl ?_
    refine zs_lstore_n_3_6 12 rfl dX7_digestOn_11 rfl rfl ?_
    refine z_iconst 13 (v := nI 0) dX7_digestOn_12 rfl rfl ?_
    refine zs_istore_5_6 15 rfl dX7_digestOn_13 rfl rfl ?_
    exact loop 0 (Nat.zero_le _)
set_option maxRecDepth 20000 in
theorem tX1_digestOn {E : zE} {d : Nat} {σ : zM} {a bw : Nat} {u : Nat → Nat → Nat} {h : Int64} (hk : (kd a).1 = 1) (hk1 : kd (a + 1) = (11, 80)) (hB : Bx σ a bw u) : Ret E mX1_digestOn d [zr E a, .long h] σ (qJ fun x τ => x = bxD bw u h ∧ τ = σ) := by
  obtain ⟨hs, h8, hv⟩ := hB
  refine Ret.of [some (zr E a), some (.long h), none, none, none, none] (by decide +kernel) (Nat.le_of_ble_eq_true rfl) rfl ?_
  by_cases h0 : bw = 0
  · subst h0
    refine z_aload_n 1 dX1_digestOn_0 rfl rfl ?_
    refine gX1_15 4 rfl dX1_digestOn_1 rfl (by first | assumption | rfl) ?_
    rw [hs]
    refine z_if_ne 15 7 dX1_digestOn_4 (by decide) rfl (fun h4 => ?_) (fun h4 => ?_)
    · (try rw [nI_eq0 (by omega)] at h4)
      exact absurd rfl h4
    · (try rw [nI_eq0 (by omega)] at h4)
      refine z_ldc2 10 dX1_digestOn_7 rfl qX1_38 ?_
      refine z_lload_n 11 dX1_digestOn_10 rfl rfl ?_
      refine z_lmul 12 dX1_digestOn_11 rfl ?_
      refine z_lconst 13 (v := 1) dX1_digestOn_12 rfl rfl ?_
      refine z_lsub 14 dX1_digestOn_13 rfl ?_
      refine z_rl dX1_digestOn_14 rfl ?_
      exact ⟨by show 31 * h - 1 = 31 * h + (-1 : Int32).toInt64; rw [Int64.sub_eq_add_neg]; rfl, rfl⟩
  · have e1 : bxD bw u h = fmx (fun i => nI (u (i / 10) (i % 10))) (mx h (nI bw)) (10 * bw) := by
      unfold bxD
      rw [if_neg h0]
    rw [e1]
    have loop : ∀ i, i ≤ 10 * bw → At E mX1_digestOn d (qJ fun x τ => x = fmx (fun i => nI (u (i / 10) (i % 10))) (mx h (nI bw)) (10 * bw) ∧ τ = σ) 30 [some (zr E a), some (.long h), none, some (.long (fmx (fun i => nI (u (i / 10) (i % 10))) (mx h (nI bw)) i)), none, some (.int (nI i))] [] σ := by
      refine z_up (fun i hi ih => ?_)
      by_cases hie : i = 10 * bw
      · rw [hie]
        refine z_iload 32 dX1_digestOn_30 rfl rfl ?_
        refine z_aload_n 33 dX1_digestOn_32 rfl rfl ?_
        refine gX1_15 36 rfl dX1_digestOn_33 rfl (by first | assumption | rfl) ?_
        rw [hs]
        refine z_bipush 38 (v := nI 10) dX1_digestOn_36 rfl rfl ?_
        refine z_imul 39 dX1_digestOn_38 rfl ?_
        rw [nI_mul]
        refine z_icmp_ge 63 42 dX1_digestOn_39 (by decide) rfl (fun h39 => ?_) (fun h39 => ?_)
        · (try rw [nI_leI (by omega) (by omega)] at h39)
          refine z_lload_n 64 dX1_digestOn_63 rfl rfl ?_
          refine z_rl dX1_digestOn_64 rfl ?_
          exact ⟨rfl, rfl⟩
        · (try rw [nI_leI (by omega) (by omega)] at h39)
          omega
      · have hvi := hv (i / 10) (by omega) (i % 10) (by omega)
        rw [show i / 10 * 10 + i % 10 = i by omega] at hvi
        refine z_iload 32 dX1_digestOn_30 rfl rfl ?_
        refine z_aload_n 33 dX1_digestOn_32 rfl rfl ?_
        refine gX1_15 36 rfl dX1_digestOn_33 rfl (by first | assumption | rfl) ?_
        rw [hs]
        refine z_bipush 38 (v := nI 10) dX1_digestOn_36 rfl rfl ?_
        refine z_imul 39 dX1_digestOn_38 rfl ?_
        rw [nI_mul]
        refine z_icmp_ge 63 42 dX1_digestOn_39 (by decide) rfl (fun h39 => ?_) (fun h39 => ?_)
        · (try rw [nI_leI (by omega) (by omega)] at h39)
          omega
        · (try rw [nI_leI (by omega) (by omega)] at h39)
          refine z_ldc2 45 dX1_digestOn_42 rfl qX1_38 ?_
          refine z_lload_n 46 dX1_digestOn_45 rfl rfl ?_
          refine z_lmul 47 dX1_digestOn_46 rfl ?_
          refine z_aload_n 48 dX1_digestOn_47 rfl rfl ?_
          refine gX1_9 51 rfl dX1_digestOn_48 rfl (by first | assumption | rfl) ?_
          refine z_iload 53 dX1_digestOn_51 rfl rfl ?_
          refine z_ialdn 54 dX1_digestOn_53 rfl (by first | assumption | rfl) (by omega) ?_
          rw [hvi]
          refine z_i2l 55 dX1_digestOn_54 rfl ?_
          refine z_ladd 56 dX1_digestOn_55 rfl ?_
          refine zs_lstore_n_3_6 57 rfl dX1_digestOn_56 rfl rfl ?_
          refine zs_iinc_5_6_1 60 rfl dX1_digestOn_57 rfl rfl ?_
          rw [nI_add]
          refine z_goto 30 dX1_digestOn_60 rfl ?_
          exact ih (i + 1) (by omega) (by omega)
    refine z_aload_n 1 dX1_digestOn_0 rfl rfl ?_
    refine gX1_15 4 rfl dX1_digestOn_1 rfl (by first | assumption | rfl) ?_
    rw [hs]
    refine z_if_ne 15 7 dX1_digestOn_4 (by decide) rfl (fun h4 => ?_) (fun h4 => ?_)
    · (try rw [nI_eq0 (by omega)] at h4)
      refine z_ldc2 18 dX1_digestOn_15 rfl qX1_38 ?_
      refine z_lload_n 19 dX1_digestOn_18 rfl rfl ?_
      refine z_lmul 20 dX1_digestOn_19 rfl ?_
      refine z_aload_n 21 dX1_digestOn_20 rfl rfl ?_
      refine gX1_15 24 rfl dX1_digestOn_21 rfl (by first | assumption | rfl) ?_
      rw [hs]
      refine z_i2l 25 dX1_digestOn_24 rfl ?_
      refine z_ladd 26 dX1_digestOn_25 rfl ?_
      refine zs_lstore_n_3_6 27 rfl dX1_digestOn_26 rfl rfl ?_
      refine z_iconst 28 (v := nI 0) dX1_digestOn_27 rfl rfl ?_
      refine zs_istore_5_6 30 rfl dX1_digestOn_28 rfl rfl ?_
      exact loop 0 (Nat.zero_le _)
    · (try rw [nI_eq0 (by omega)] at h4)
      exact absurd h4 h0
set_option maxRecDepth 20000 in
theorem tX9_digest {E : zE} {d : Nat} {σ : zM} {S : sS} (hW : WF S) (hX : RX S σ) : Ret E mX9_digest (d + 3) [zr E 0] σ (qJ fun x τ => x = dg6 S ∧ τ = σ) := by
  have h8 := hW.2.1.1
  have h12 := hW.2.2.1
  have hpm : gi σ 0 11 = nI (sPc S) := hX.2.2.2.1.1
  have hlc : gi σ 0 12 = nI (sLc S) := hX.2.2.2.2.1.1
  refine Ret.of [some (zr E 0), none, none, none, none] (by decide +kernel) (Nat.le_of_ble_eq_true rfl) rfl ?_
  have stF : ∀ i, i ≤ 4 → ∀ y, At E mX9_digest (d + 3) (qJ fun x τ => x = dg6 S ∧ τ = σ) 182 [some (zr E 0), some (.long (rD (sT S) (dg5 S) i)), none, some (.int (nI i)), y] [] σ := by
    refine z_up (fun i hi ih y => ?_)
    by_cases hie : i = 4
    · subst hie
      refine z_iload_n 183 dX9_digest_182 rfl rfl ?_
      refine z_iconst 184 (v := nI 4) dX9_digest_183 rfl rfl ?_
      refine z_icmp_ge 204 187 dX9_digest_184 (by decide) rfl (fun h184 => ?_) (fun h184 => ?_)
      · (try rw [nI_leI (by omega) (by omega)] at h184)
        refine z_lload_n 205 dX9_digest_204 rfl rfl ?_
        refine z_rl dX9_digest_205 rfl ?_
        exact ⟨rfl, rfl⟩
      · (try rw [nI_leI (by omega) (by omega)] at h184)
        omega
    · refine z_iload_n 183 dX9_digest_182 rfl rfl ?_
      refine z_iconst 184 (v := nI 4) dX9_digest_183 rfl rfl ?_
      refine z_icmp_ge 204 187 dX9_digest_184 (by decide) rfl (fun h184 => ?_) (fun h184 => ?_)
      · (try rw [nI_leI (by omega) (by omega)] at h184)
        omega
      · (try rw [nI_leI (by omega) (by omega)] at h184)
        refine z_aload_n 188 dX9_digest_187 rfl rfl ?_
        refine gX9_15 191 rfl dX9_digest_188 rfl ?_
        refine z_iload_n 192 dX9_digest_191 rfl rfl ?_
        refine z_aald2 193 dX9_digest_192 rfl (by omega) ?_
        refine z_lload_n 194 dX9_digest_193 rfl rfl ?_
        refine z_cVJ1 197 (tX7_digestOn (kd_t (show i < 4 by omega)) (kd_t1 (show i < 4 by omega)) (hX.2.1 i (by omega))) kX7_digestOn dX9_digest_194 rfl lX9_404 (kd_t (show i < 4 by omega)) (Nat.le_of_ble_eq_true rfl) ?_
        rintro _ _ ⟨e1, e2⟩
        replace e1 := e1.symm
        replace e2 := e2.symm
        subst e1
        subst e2
        refine zs_lstore_n_1_5 198 rfl dX9_digest_197 rfl rfl ?_
        refine zs_iinc_3_5_1 201 rfl dX9_digest_198 rfl rfl ?_
        rw [nI_add]
        refine z_goto 182 dX9_digest_201 rfl ?_
        exact ih (i + 1) (by omega) (by omega) y
  have stE : ∀ i, i ≤ 6 → ∀ y, At E mX9_digest (d + 3) (qJ fun x τ => x = dg6 S ∧ τ = σ) 157 [some (zr E 0), some (.long (rD (sR S) (dg4 S) i)), none, some (.int (nI i)), y] [] σ := by
    refine z_up (fun i hi ih y => ?_)
    by_cases hie : i = 6
    · subst hie
      refine z_iload_n 158 dX9_digest_157 rfl rfl ?_
      refine z_bipush 160 (v := nI 6) dX9_digest_158 rfl rfl ?_
      refine z_icmp_ge 180 163 dX9_digest_160 (by decide) rfl (fun h160 => ?_) (fun h160 => ?_)
      · (try rw [nI_leI (by omega) (by omega)] at h160)
        refine z_iconst 181 (v := nI 0) dX9_digest_180 rfl rfl ?_
        refine zs_istore_n_3_5 182 rfl dX9_digest_181 rfl rfl ?_
        exact stF 0 (by omega) y
      · (try rw [nI_leI (by omega) (by omega)] at h160)
        omega
    · refine z_iload_n 158 dX9_digest_157 rfl rfl ?_
      refine z_bipush 160 (v := nI 6) dX9_digest_158 rfl rfl ?_
      refine z_icmp_ge 180 163 dX9_digest_160 (by decide) rfl (fun h160 => ?_) (fun h160 => ?_)
      · (try rw [nI_leI (by omega) (by omega)] at h160)
        omega
      · (try rw [nI_leI (by omega) (by omega)] at h160)
        refine z_aload_n 164 dX9_digest_163 rfl rfl ?_
        refine gX9_11 167 rfl dX9_digest_164 rfl ?_
        refine z_iload_n 168 dX9_digest_167 rfl rfl ?_
        refine z_aald1 169 dX9_digest_168 rfl (by omega) ?_
        refine z_lload_n 170 dX9_digest_169 rfl rfl ?_
        refine z_cVJ1 173 (tX7_digestOn (kd_r (show i < 6 by omega)) (kd_r1 (show i < 6 by omega)) (hX.1 i (by omega))) kX7_digestOn dX9_digest_170 rfl lX9_404 (kd_r (show i < 6 by omega)) (Nat.le_of_ble_eq_true rfl) ?_
        rintro _ _ ⟨e1, e2⟩
        replace e1 := e1.symm
        replace e2 := e2.symm
        subst e1
        subst e2
        refine zs_lstore_n_1_5 174 rfl dX9_digest_173 rfl rfl ?_
        refine zs_iinc_3_5_1 177 rfl dX9_digest_174 rfl rfl ?_
        rw [nI_add]
        refine z_goto 157 dX9_digest_177 rfl ?_
        exact ih (i + 1) (by omega) (by omega) y
  have stD : ∀ i, i ≤ sLc S → ∀ y, At E mX9_digest (d + 3) (qJ fun x τ => x = dg6 S ∧ τ = σ) 107 [some (zr E 0), some (.long (fmx (lvV S) (dg3 S) (5 * i))), none, some (.int (nI i)), y] [] σ := by
    refine z_up (fun i hi ih y => ?_)
    by_cases hie : i = sLc S
    · rw [hie]
      refine z_iload_n 108 dX9_digest_107 rfl rfl ?_
      refine z_aload_n 109 dX9_digest_108 rfl rfl ?_
      refine gX9_153 112 rfl dX9_digest_109 rfl ?_
      rw [hlc]
      refine z_icmp_ge 155 115 dX9_digest_112 (by decide) rfl (fun h112 => ?_) (fun h112 => ?_)
      · (try rw [nI_leI (by omega) (by omega)] at h112)
        refine z_iconst 156 (v := nI 0) dX9_digest_155 rfl rfl ?_
        refine zs_istore_n_3_5 157 rfl dX9_digest_156 rfl rfl ?_
        exact stE 0 (by omega) y
      · (try rw [nI_leI (by omega) (by omega)] at h112)
        omega
    · have hil : i < sLc S := by omega
      have hke := kd_e (show i < 12 by omega)
      have inner : ∀ j, j ≤ 5 → At E mX9_digest (d + 3) (qJ fun x τ => x = dg6 S ∧ τ = σ) 118 [some (zr E 0), some (.long (fmx (lvV S) (dg3 S) (5 * i + j))), none, some (.int (nI i)), some (.int (nI j))] [] σ := by
        refine z_up (fun j hj jh => ?_)
        by_cases hje : j = 5
        · rw [hje]
          refine z_iload 120 dX9_digest_118 rfl rfl ?_
          refine z_iconst 121 (v := nI 5) dX9_digest_120 rfl rfl ?_
          refine z_icmp_ge 149 124 dX9_digest_121 (by decide) rfl (fun h121 => ?_) (fun h121 => ?_)
          · (try rw [nI_leI (by omega) (by omega)] at h121)
            refine zs_iinc_3_5_1 152 rfl dX9_digest_149 rfl rfl ?_
            rw [nI_add]
            refine z_goto 107 dX9_digest_152 rfl ?_
            exact ih (i + 1) (by omega) (by omega) _
          · (try rw [nI_leI (by omega) (by omega)] at h121)
            omega
        · refine z_iload 120 dX9_digest_118 rfl rfl ?_
          refine z_iconst 121 (v := nI 5) dX9_digest_120 rfl rfl ?_
          refine z_icmp_ge 149 124 dX9_digest_121 (by decide) rfl (fun h121 => ?_) (fun h121 => ?_)
          · (try rw [nI_leI (by omega) (by omega)] at h121)
            omega
          · (try rw [nI_leI (by omega) (by omega)] at h121)
            refine z_ldc2 127 dX9_digest_124 rfl qX9_395 ?_
            refine z_lload_n 128 dX9_digest_127 rfl rfl ?_
            refine z_lmul 129 dX9_digest_128 rfl ?_
            refine z_aload_n 130 dX9_digest_129 rfl rfl ?_
            refine gX9_32 133 rfl dX9_digest_130 rfl ?_
            refine z_iload_n 134 dX9_digest_133 rfl rfl ?_
            refine z_aald5 135 dX9_digest_134 rfl (by omega) ?_
            refine z_iload 137 dX9_digest_135 rfl rfl ?_
            refine z_cVI1 140 (tX3_tells hW hX hil (show j < 5 by omega)) kX3_tells dX9_digest_137 rfl lX9_326 (by first | assumption | rfl) (Nat.le_of_ble_eq_true rfl) ?_
            rintro _ _ ⟨e1, e2⟩
            replace e1 := e1.symm
            replace e2 := e2.symm
            subst e1
            subst e2
            rw [← lvV_at S (p := i) (show j < 5 by omega)]
            refine z_i2l 141 dX9_digest_140 rfl ?_
            refine z_ladd 142 dX9_digest_141 rfl ?_
            refine zs_lstore_n_1_5 143 rfl dX9_digest_142 rfl rfl ?_
            refine zs_iinc_4_5_1 146 rfl dX9_digest_143 rfl rfl ?_
            rw [nI_add]
            refine z_goto 118 dX9_digest_146 rfl ?_
            exact jh (j + 1) (by omega) (by omega)
      refine z_iload_n 108 dX9_digest_107 rfl rfl ?_
      refine z_aload_n 109 dX9_digest_108 rfl rfl ?_
      refine gX9_153 112 rfl dX9_digest_109 rfl ?_
      rw [hlc]
      refine z_icmp_ge 155 115 dX9_digest_112 (by decide) rfl (fun h112 => ?_) (fun h112 => ?_)
      · (try rw [nI_leI (by omega) (by omega)] at h112)
        omega
      · (try rw [nI_leI (by omega) (by omega)] at h112)
        refine z_iconst 116 (v := nI 0) dX9_digest_115 rfl rfl ?_
        refine zs_istore_4_5 118 rfl dX9_digest_116 rfl rfl ?_
        exact inner 0 (by omega)
  have stC : ∀ i, i ≤ sPc S → ∀ y, At E mX9_digest (d + 3) (qJ fun x τ => x = dg6 S ∧ τ = σ) 57 [some (zr E 0), some (.long (fmx (plV S) (dg2 S) (4 * i))), none, some (.int (nI i)), y] [] σ := by
    refine z_up (fun i hi ih y => ?_)
    by_cases hie : i = sPc S
    · rw [hie]
      refine z_iload_n 58 dX9_digest_57 rfl rfl ?_
      refine z_aload_n 59 dX9_digest_58 rfl rfl ?_
      refine gX9_150 62 rfl dX9_digest_59 rfl ?_
      rw [hpm]
      refine z_icmp_ge 105 65 dX9_digest_62 (by decide) rfl (fun h62 => ?_) (fun h62 => ?_)
      · (try rw [nI_leI (by omega) (by omega)] at h62)
        refine z_iconst 106 (v := nI 0) dX9_digest_105 rfl rfl ?_
        refine zs_istore_n_3_5 107 rfl dX9_digest_106 rfl rfl ?_
        exact stD 0 (by omega) y
      · (try rw [nI_leI (by omega) (by omega)] at h62)
        omega
    · have hil : i < sPc S := by omega
      have hcp := kd_p (show i < 8 by omega)
      have inner : ∀ j, j ≤ 4 → At E mX9_digest (d + 3) (qJ fun x τ => x = dg6 S ∧ τ = σ) 68 [some (zr E 0), some (.long (fmx (plV S) (dg2 S) (4 * i + j))), none, some (.int (nI i)), some (.int (nI j))] [] σ := by
        refine z_up (fun j hj jh => ?_)
        by_cases hje : j = 4
        · rw [hje]
          refine z_iload 70 dX9_digest_68 rfl rfl ?_
          refine z_iconst 71 (v := nI 4) dX9_digest_70 rfl rfl ?_
          refine z_icmp_ge 99 74 dX9_digest_71 (by decide) rfl (fun h71 => ?_) (fun h71 => ?_)
          · (try rw [nI_leI (by omega) (by omega)] at h71)
            refine zs_iinc_3_5_1 102 rfl dX9_digest_99 rfl rfl ?_
            rw [nI_add]
            refine z_goto 57 dX9_digest_102 rfl ?_
            exact ih (i + 1) (by omega) (by omega) _
          · (try rw [nI_leI (by omega) (by omega)] at h71)
            omega
        · refine z_iload 70 dX9_digest_68 rfl rfl ?_
          refine z_iconst 71 (v := nI 4) dX9_digest_70 rfl rfl ?_
          refine z_icmp_ge 99 74 dX9_digest_71 (by decide) rfl (fun h71 => ?_) (fun h71 => ?_)
          · (try rw [nI_leI (by omega) (by omega)] at h71)
            omega
          · (try rw [nI_leI (by omega) (by omega)] at h71)
            refine z_ldc2 77 dX9_digest_74 rfl qX9_395 ?_
            refine z_lload_n 78 dX9_digest_77 rfl rfl ?_
            refine z_lmul 79 dX9_digest_78 rfl ?_
            refine z_aload_n 80 dX9_digest_79 rfl rfl ?_
            refine gX9_26 83 rfl dX9_digest_80 rfl ?_
            refine z_iload_n 84 dX9_digest_83 rfl rfl ?_
            refine z_aald4 85 dX9_digest_84 rfl (by omega) ?_
            refine z_iload 87 dX9_digest_85 rfl rfl ?_
            refine z_cVI1 90 (tX4_tells hcp (hX.py hil) (show j < 4 by omega)) kX4_tells dX9_digest_87 rfl lX9_179 (by first | assumption | rfl) (Nat.le_of_ble_eq_true rfl) ?_
            rintro _ _ ⟨e1, e2⟩
            replace e1 := e1.symm
            replace e2 := e2.symm
            subst e1
            subst e2
            rw [← plV_at S (p := i) (show j < 4 by omega)]
            refine z_i2l 91 dX9_digest_90 rfl ?_
            refine z_ladd 92 dX9_digest_91 rfl ?_
            refine zs_lstore_n_1_5 93 rfl dX9_digest_92 rfl rfl ?_
            refine zs_iinc_4_5_1 96 rfl dX9_digest_93 rfl rfl ?_
            rw [nI_add]
            refine z_goto 68 dX9_digest_96 rfl ?_
            exact jh (j + 1) (by omega) (by omega)
      refine z_iload_n 58 dX9_digest_57 rfl rfl ?_
      refine z_aload_n 59 dX9_digest_58 rfl rfl ?_
      refine gX9_150 62 rfl dX9_digest_59 rfl ?_
      rw [hpm]
      refine z_icmp_ge 105 65 dX9_digest_62 (by decide) rfl (fun h62 => ?_) (fun h62 => ?_)
      · (try rw [nI_leI (by omega) (by omega)] at h62)
        omega
      · (try rw [nI_leI (by omega) (by omega)] at h62)
        refine z_iconst 66 (v := nI 0) dX9_digest_65 rfl rfl ?_
        refine zs_istore_4_5 68 rfl dX9_digest_66 rfl rfl ?_
        exact inner 0 (by omega)
  have stB : ∀ i, i ≤ 2 → ∀ y, At E mX9_digest (d + 3) (qJ fun x τ => x = dg6 S ∧ τ = σ) 33 [some (zr E 0), some (.long (bD S (dg1 S) i)), none, some (.int (nI i)), y] [] σ := by
    refine z_up (fun i hi ih y => ?_)
    by_cases hie : i = 2
    · subst hie
      refine z_iload_n 34 dX9_digest_33 rfl rfl ?_
      refine z_iconst 35 (v := nI 2) dX9_digest_34 rfl rfl ?_
      refine z_icmp_ge 55 38 dX9_digest_35 (by decide) rfl (fun h35 => ?_) (fun h35 => ?_)
      · (try rw [nI_leI (by omega) (by omega)] at h35)
        refine z_iconst 56 (v := nI 0) dX9_digest_55 rfl rfl ?_
        refine zs_istore_n_3_5 57 rfl dX9_digest_56 rfl rfl ?_
        exact stC 0 (by omega) y
      · (try rw [nI_leI (by omega) (by omega)] at h35)
        omega
    · refine z_iload_n 34 dX9_digest_33 rfl rfl ?_
      refine z_iconst 35 (v := nI 2) dX9_digest_34 rfl rfl ?_
      refine z_icmp_ge 55 38 dX9_digest_35 (by decide) rfl (fun h35 => ?_) (fun h35 => ?_)
      · (try rw [nI_leI (by omega) (by omega)] at h35)
        omega
      · (try rw [nI_leI (by omega) (by omega)] at h35)
        refine z_aload_n 39 dX9_digest_38 rfl rfl ?_
        refine gX9_20 42 rfl dX9_digest_39 rfl ?_
        refine z_iload_n 43 dX9_digest_42 rfl rfl ?_
        refine z_aald3 44 dX9_digest_43 rfl (by omega) ?_
        refine z_lload_n 45 dX9_digest_44 rfl rfl ?_
        refine z_cVJ1 48 (tX1_digestOn (kd_b (show i < 2 by omega)) (kd_b1 (show i < 2 by omega)) (hX.bx hW (show i < 2 by omega))) kX1_digestOn dX9_digest_45 rfl lX9_400 (kd_b (show i < 2 by omega)) (Nat.le_of_ble_eq_true rfl) ?_
        rintro _ _ ⟨e1, e2⟩
        replace e1 := e1.symm
        replace e2 := e2.symm
        subst e1
        subst e2
        refine zs_lstore_n_1_5 49 rfl dX9_digest_48 rfl rfl ?_
        refine zs_iinc_3_5_1 52 rfl dX9_digest_49 rfl rfl ?_
        rw [nI_add]
        refine z_goto 33 dX9_digest_52 rfl ?_
        exact ih (i + 1) (by omega) (by omega) y
  have stA : ∀ i, i ≤ 8 → ∀ y, At E mX9_digest (d + 3) (qJ fun x τ => x = dg6 S ∧ τ = σ) 6 [some (zr E 0), some (.long (fmx (cV S) 17 i)), none, some (.int (nI i)), y] [] σ := by
    refine z_up (fun i hi ih y => ?_)
    by_cases hie : i = 8
    · subst hie
      refine z_iload_n 7 dX9_digest_6 rfl rfl ?_
      refine z_bipush 9 (v := nI 8) dX9_digest_7 rfl rfl ?_
      refine z_icmp_ge 31 12 dX9_digest_9 (by decide) rfl (fun h9 => ?_) (fun h9 => ?_)
      · (try rw [nI_leI (by omega) (by omega)] at h9)
        refine z_iconst 32 (v := nI 0) dX9_digest_31 rfl rfl ?_
        refine zs_istore_n_3_5 33 rfl dX9_digest_32 rfl rfl ?_
        exact stB 0 (by omega) y
      · (try rw [nI_leI (by omega) (by omega)] at h9)
        omega
    · refine z_iload_n 7 dX9_digest_6 rfl rfl ?_
      refine z_bipush 9 (v := nI 8) dX9_digest_7 rfl rfl ?_
      refine z_icmp_ge 31 12 dX9_digest_9 (by decide) rfl (fun h9 => ?_) (fun h9 => ?_)
      · (try rw [nI_leI (by omega) (by omega)] at h9)
        omega
      · (try rw [nI_leI (by omega) (by omega)] at h9)
        refine z_ldc2 15 dX9_digest_12 rfl qX9_395 ?_
        refine z_lload_n 16 dX9_digest_15 rfl rfl ?_
        refine z_lmul 17 dX9_digest_16 rfl ?_
        refine z_aload_n 18 dX9_digest_17 rfl rfl ?_
        refine z_iload_n 19 dX9_digest_18 rfl rfl ?_
        refine z_cVI1 22 (tX9_countJ hW hX (show i < 8 by omega)) kX9_count dX9_digest_19 rfl lX9_397 (by first | assumption | rfl) (Nat.le_of_ble_eq_true rfl) ?_
        rintro _ _ ⟨e1, e2⟩
        replace e1 := e1.symm
        replace e2 := e2.symm
        subst e1
        subst e2
        refine z_i2l 23 dX9_digest_22 rfl ?_
        refine z_ladd 24 dX9_digest_23 rfl ?_
        refine zs_lstore_n_1_5 25 rfl dX9_digest_24 rfl rfl ?_
        refine zs_iinc_3_5_1 28 rfl dX9_digest_25 rfl rfl ?_
        rw [nI_add]
        refine z_goto 6 dX9_digest_28 rfl ?_
        exact ih (i + 1) (by omega) (by omega) y
  refine z_ldc2 3 dX9_digest_0 rfl qX9_393 ?_
  refine zs_lstore_n_1_5 4 rfl dX9_digest_3 rfl rfl ?_
  refine z_iconst 5 (v := nI 0) dX9_digest_4 rfl rfl ?_
  refine zs_istore_n_3_5 6 rfl dX9_digest_5 rfl rfl ?_
  exact stA 0 (by omega) none
/-! of the reference -/
set_option maxRecDepth 20000 in
theorem tX10_mix {E : zE} {d : Nat} {σ : zM} {S : sS} {h : Int64} {v : Int32} (hW : WF S) (hX : RM S σ) (hh : gl σ 102 38 = h) : Ret E mX10_mix d [zr E 102, .int v] σ (qV fun τ => Fr (fun a j => a = 102 ∧ j = 38) σ τ ∧ RM S τ ∧ gl τ 102 38 = mx h v) := by
  have hf : Fr (fun a j => a = 102 ∧ j = 38) σ (sl σ 102 38 (mx h v)) := Fr.rf.sl _ ⟨rfl, rfl⟩
  refine Ret.of [some (zr E 102), some (.int v)] (by decide +kernel) (Nat.le_of_ble_eq_true rfl) rfl ?_
  refine z_aload_n 1 dX10_mix_0 rfl rfl ?_
  refine z_ldc2 4 dX10_mix_1 rfl qX10_335 ?_
  refine z_aload_n 5 dX10_mix_4 rfl rfl ?_
  refine gX10_337 8 rfl dX10_mix_5 rfl ?_
  rw [hh]
  refine z_lmul 9 dX10_mix_8 rfl ?_
  refine z_iload_n 10 dX10_mix_9 rfl rfl ?_
  refine z_i2l 11 dX10_mix_10 rfl ?_
  refine z_ladd 12 dX10_mix_11 rfl ?_
  refine pX10_337 15 rfl dX10_mix_12 rfl ?_
  refine z_rv dX10_mix_15 rfl ?_
  exact ⟨hf, hX.scr hW (hf.mono (by unfold mS; intros; omega)), gl_s1 _ _ _ _⟩
theorem RM.plV {S : sS} {σ : zM} (hX : RM S σ) {k : Nat} (hk : k < 4 * sPc S) : gi σ 111 k = plV S k := by
  obtain ⟨a0, a1, a2, a3⟩ := hX.2.2.2.1.2 (k / 4) (show k / 4 < sPc S by omega)
  have hm : k % 4 < 4 := Nat.mod_lt _ (by decide)
  have e : k = 4 * (k / 4) + k % 4 := by omega
  have key : ∀ m, m < 4 → gi σ 111 (4 * (k / 4) + m) = nI (plf (sPl S (k / 4)) m) := fun m hm => match m, hm with
    | 0, _ => a0
    | 1, _ => a1
    | 2, _ => a2
    | 3, _ => a3
  have h := key (k % 4) hm
  rw [← e] at h
  exact h
abbrev h38 (a j : Nat) : Prop := a = 102 ∧ j = 38
set_option maxRecDepth 20000 in
theorem tX10_mixAll {E : zE} {d : Nat} {σ : zM} {S : sS} (hW : WF S) (hX : RM S σ) (hh : gl σ 102 38 = dg1 S) : Ret E mX10_mixAll (d + 1) [zr E 102] σ (qV fun τ => Fr h38 σ τ ∧ RM S τ ∧ gl τ 102 38 = dg4 S) := by
  have h8 := hW.2.1.1
  have h12 := hW.2.2.1
  refine Ret.of [some (zr E 102), none, none] (by decide +kernel) (Nat.le_of_ble_eq_true rfl) rfl ?_
  have stD : ∀ i, i ≤ sLc S → ∀ y τ, Fr h38 σ τ → RM S τ → gl τ 102 38 = fmx (lvV S) (dg3 S) (5 * i) → At E mX10_mixAll (d + 1) (qV fun τ => Fr h38 σ τ ∧ RM S τ ∧ gl τ 102 38 = dg4 S) 102 [some (zr E 102), some (.int (nI i)), y] [] τ := by
    refine z_up (fun i hi ih y τ hF hR hv => ?_)
    have hlc : gi τ 102 35 = nI (sLc S) := hR.2.2.2.2.1.1
    by_cases hie : i = sLc S
    · rw [hie] at hv ⊢
      refine z_iload_n 103 dX10_mixAll_102 rfl rfl ?_
      refine z_aload_n 104 dX10_mixAll_103 rfl rfl ?_
      refine gX10_141 107 rfl dX10_mixAll_104 rfl ?_
      rw [hlc]
      refine z_icmp_ge 139 110 dX10_mixAll_107 (by decide) rfl (fun h107 => ?_) (fun h107 => ?_)
      · (try rw [nI_leI (by omega) (by omega)] at h107)
        refine z_rv dX10_mixAll_139 rfl ?_
        exact ⟨hF, hR, hv⟩
      · (try rw [nI_leI (by omega) (by omega)] at h107)
        omega
    · have hil : i < sLc S := by omega
      have inner : ∀ j, j ≤ 5 → ∀ τ, Fr h38 σ τ → RM S τ → gl τ 102 38 = fmx (lvV S) (dg3 S) (5 * i + j) → At E mX10_mixAll (d + 1) (qV fun τ => Fr h38 σ τ ∧ RM S τ ∧ gl τ 102 38 = dg4 S) 112 [some (zr E 102), some (.int (nI i)), some (.int (nI j))] [] τ := by
        refine z_up (fun j hj jh τ hF hR hv => ?_)
        by_cases hje : j = 5
        · rw [hje] at hv ⊢
          refine z_iload_n 113 dX10_mixAll_112 rfl rfl ?_
          refine z_iconst 114 (v := nI 5) dX10_mixAll_113 rfl rfl ?_
          refine z_icmp_ge 133 117 dX10_mixAll_114 (by decide) rfl (fun h114 => ?_) (fun h114 => ?_)
          · (try rw [nI_leI (by omega) (by omega)] at h114)
            refine zs_iinc_1_3_1 136 rfl dX10_mixAll_133 rfl rfl ?_
            rw [nI_add]
            refine z_goto 102 dX10_mixAll_136 rfl ?_
            exact ih (i + 1) (by omega) (by omega) _ τ hF hR hv
          · (try rw [nI_leI (by omega) (by omega)] at h114)
            omega
        · refine z_iload_n 113 dX10_mixAll_112 rfl rfl ?_
          refine z_iconst 114 (v := nI 5) dX10_mixAll_113 rfl rfl ?_
          refine z_icmp_ge 133 117 dX10_mixAll_114 (by decide) rfl (fun h114 => ?_) (fun h114 => ?_)
          · (try rw [nI_leI (by omega) (by omega)] at h114)
            omega
          · (try rw [nI_leI (by omega) (by omega)] at h114)
            refine z_aload_n 118 dX10_mixAll_117 rfl rfl ?_
            refine z_aload_n 119 dX10_mixAll_118 rfl rfl ?_
            refine z_iload_n 120 dX10_mixAll_119 rfl rfl ?_
            refine z_iload_n 121 dX10_mixAll_120 rfl rfl ?_
            refine z_cVI2 124 (tX10_leafTells (by omega) (by omega)) kX10_leafTells dX10_mixAll_121 rfl lX10_304 (by first | assumption | rfl) (Nat.le_of_ble_eq_true rfl) ?_
            rintro _ _ ⟨e1, e2⟩
            replace e1 := e1.symm
            replace e2 := e2.symm
            subst e1
            subst e2
            rw [hR.lf hil (show j < 5 by omega), ← lvV_at S (p := i) (show j < 5 by omega)]
            refine z_cVV1 127 (tX10_mix hW hR hv) kX10_mix dX10_mixAll_124 rfl lX10_340 (by first | assumption | rfl) (Nat.le_of_ble_eq_true rfl) ?_
            rintro τ1 ⟨hF1, hX1, hv1⟩
            refine zs_iinc_2_3_1 130 rfl dX10_mixAll_127 rfl rfl ?_
            rw [nI_add]
            refine z_goto 112 dX10_mixAll_130 rfl ?_
            exact jh (j + 1) (by omega) (by omega) τ1 (hF.tr hF1 (fun _ _ h => h) (fun _ _ h => h)) hX1 hv1
      refine z_iload_n 103 dX10_mixAll_102 rfl rfl ?_
      refine z_aload_n 104 dX10_mixAll_103 rfl rfl ?_
      refine gX10_141 107 rfl dX10_mixAll_104 rfl ?_
      rw [hlc]
      refine z_icmp_ge 139 110 dX10_mixAll_107 (by decide) rfl (fun h107 => ?_) (fun h107 => ?_)
      · (try rw [nI_leI (by omega) (by omega)] at h107)
        omega
      · (try rw [nI_leI (by omega) (by omega)] at h107)
        refine z_iconst 111 (v := nI 0) dX10_mixAll_110 rfl rfl ?_
        refine zs_istore_n_2_3 112 rfl dX10_mixAll_111 rfl rfl ?_
        exact inner 0 (by omega) τ hF hR hv
  have stC : ∀ i, i ≤ 4 * sPc S → ∀ y τ, Fr h38 σ τ → RM S τ → gl τ 102 38 = fmx (plV S) (dg2 S) i → At E mX10_mixAll (d + 1) (qV fun τ => Fr h38 σ τ ∧ RM S τ ∧ gl τ 102 38 = dg4 S) 74 [some (zr E 102), some (.int (nI i)), y] [] τ := by
    refine z_up (fun i hi ih y τ hF hR hv => ?_)
    have hpm : gi τ 102 13 = nI (sPc S) := hR.2.2.2.1.1
    by_cases hie : i = 4 * sPc S
    · rw [hie] at hv ⊢
      refine z_iload_n 75 dX10_mixAll_74 rfl rfl ?_
      refine z_iconst 76 (v := nI 4) dX10_mixAll_75 rfl rfl ?_
      refine z_aload_n 77 dX10_mixAll_76 rfl rfl ?_
      refine gX10_138 80 rfl dX10_mixAll_77 rfl ?_
      rw [hpm]
      refine z_imul 81 dX10_mixAll_80 rfl ?_
      rw [nI_mul]
      refine z_icmp_ge 100 84 dX10_mixAll_81 (by decide) rfl (fun h81 => ?_) (fun h81 => ?_)
      · (try rw [nI_leI (by omega) (by omega)] at h81)
        refine z_iconst 101 (v := nI 0) dX10_mixAll_100 rfl rfl ?_
        refine zs_istore_n_1_3 102 rfl dX10_mixAll_101 rfl rfl ?_
        exact stD 0 (by omega) y τ hF hR hv
      · (try rw [nI_leI (by omega) (by omega)] at h81)
        omega
    · refine z_iload_n 75 dX10_mixAll_74 rfl rfl ?_
      refine z_iconst 76 (v := nI 4) dX10_mixAll_75 rfl rfl ?_
      refine z_aload_n 77 dX10_mixAll_76 rfl rfl ?_
      refine gX10_138 80 rfl dX10_mixAll_77 rfl ?_
      rw [hpm]
      refine z_imul 81 dX10_mixAll_80 rfl ?_
      rw [nI_mul]
      refine z_icmp_ge 100 84 dX10_mixAll_81 (by decide) rfl (fun h81 => ?_) (fun h81 => ?_)
      · (try rw [nI_leI (by omega) (by omega)] at h81)
        omega
      · (try rw [nI_leI (by omega) (by omega)] at h81)
        refine z_aload_n 85 dX10_mixAll_84 rfl rfl ?_
        refine z_aload_n 86 dX10_mixAll_85 rfl rfl ?_
        refine gX10_38 89 rfl dX10_mixAll_86 rfl ?_
        refine z_iload_n 90 dX10_mixAll_89 rfl rfl ?_
        refine z_ialdn 91 dX10_mixAll_90 rfl (by first | assumption | rfl) (by omega) ?_
        rw [hR.plV (show i < 4 * sPc S by omega)]
        refine z_cVV1 94 (tX10_mix hW hR hv) kX10_mix dX10_mixAll_91 rfl lX10_340 (by first | assumption | rfl) (Nat.le_of_ble_eq_true rfl) ?_
        rintro τ1 ⟨hF1, hX1, hv1⟩
        refine zs_iinc_1_3_1 97 rfl dX10_mixAll_94 rfl rfl ?_
        rw [nI_add]
        refine z_goto 74 dX10_mixAll_97 rfl ?_
        exact ih (i + 1) (by omega) (by omega) y τ1 (hF.tr hF1 (fun _ _ h => h) (fun _ _ h => h)) hX1 hv1
  have stB : ∀ i, i ≤ 2 → ∀ y τ, Fr h38 σ τ → RM S τ → gl τ 102 38 = bD S (dg1 S) i → At E mX10_mixAll (d + 1) (qV fun τ => Fr h38 σ τ ∧ RM S τ ∧ gl τ 102 38 = dg4 S) 2 [some (zr E 102), some (.int (nI i)), y] [] τ := by
    refine z_up (fun i hi ih y τ hF hR hv => ?_)
    by_cases hie : i = 2
    · rw [hie] at hv ⊢
      refine z_iload_n 3 dX10_mixAll_2 rfl rfl ?_
      refine z_iconst 4 (v := nI 2) dX10_mixAll_3 rfl rfl ?_
      refine z_icmp_ge 72 7 dX10_mixAll_4 (by decide) rfl (fun h4 => ?_) (fun h4 => ?_)
      · (try rw [nI_leI (by omega) (by omega)] at h4)
        refine z_iconst 73 (v := nI 0) dX10_mixAll_72 rfl rfl ?_
        refine zs_istore_n_1_3 74 rfl dX10_mixAll_73 rfl rfl ?_
        exact stC 0 (by omega) y τ hF hR hv
      · (try rw [nI_leI (by omega) (by omega)] at h4)
        omega
    · have hb8 := bw_le hW (show i < 2 by omega)
      have inner : ∀ j, j ≤ 10 * sBw S i → ∀ τ, Fr h38 σ τ → RM S τ → gl τ 102 38 = fmx (fun k => nI (sUs S i (k / 10) (k % 10))) (mx (bD S (dg1 S) i) (if sBw S i = 0 then -1 else nI (sBw S i))) j → At E mX10_mixAll (d + 1) (qV fun τ => Fr h38 σ τ ∧ RM S τ ∧ gl τ 102 38 = dg4 S) 32 [some (zr E 102), some (.int (nI i)), some (.int (nI j))] [] τ := by
        refine z_up (fun j hj jh τ hF hR hv => ?_)
        have hbs : gi τ 109 i = nI (sBw S i) := (hR.2.2.1 i (by omega)).1
        by_cases hje : j = 10 * sBw S i
        · rw [hje] at hv ⊢
          refine z_iload_n 33 dX10_mixAll_32 rfl rfl ?_
          refine z_bipush 35 (v := nI 10) dX10_mixAll_33 rfl rfl ?_
          refine z_aload_n 36 dX10_mixAll_35 rfl rfl ?_
          refine gX10_32 39 rfl dX10_mixAll_36 rfl ?_
          refine z_iload_n 40 dX10_mixAll_39 rfl rfl ?_
          refine z_ialdn 41 dX10_mixAll_40 rfl (by first | assumption | rfl) (by omega) ?_
          rw [hbs]
          refine z_imul 42 dX10_mixAll_41 rfl ?_
          rw [nI_mul]
          refine z_icmp_ge 66 45 dX10_mixAll_42 (by decide) rfl (fun h42 => ?_) (fun h42 => ?_)
          · (try rw [nI_leI (by omega) (by omega)] at h42)
            refine zs_iinc_1_3_1 69 rfl dX10_mixAll_66 rfl rfl ?_
            rw [nI_add]
            refine z_goto 2 dX10_mixAll_69 rfl ?_
            exact ih (i + 1) (by omega) (by omega) _ τ hF hR hv
          · (try rw [nI_leI (by omega) (by omega)] at h42)
            omega
        · have hvi : gi τ 110 (80 * i + 10 * (j / 10) + j % 10) = nI (sUs S i (j / 10) (j % 10)) := (hR.2.2.1 i (by omega)).2 (j / 10) (show j / 10 < sBw S i by omega) (j % 10) (by omega)
          rw [show 80 * i + 10 * (j / 10) + j % 10 = 80 * i + j by omega] at hvi
          refine z_iload_n 33 dX10_mixAll_32 rfl rfl ?_
          refine z_bipush 35 (v := nI 10) dX10_mixAll_33 rfl rfl ?_
          refine z_aload_n 36 dX10_mixAll_35 rfl rfl ?_
          refine gX10_32 39 rfl dX10_mixAll_36 rfl ?_
          refine z_iload_n 40 dX10_mixAll_39 rfl rfl ?_
          refine z_ialdn 41 dX10_mixAll_40 rfl (by first | assumption | rfl) (by omega) ?_
          rw [hbs]
          refine z_imul 42 dX10_mixAll_41 rfl ?_
          rw [nI_mul]
          refine z_icmp_ge 66 45 dX10_mixAll_42 (by decide) rfl (fun h42 => ?_) (fun h42 => ?_)
          · (try rw [nI_leI (by omega) (by omega)] at h42)
            omega
          · (try rw [nI_leI (by omega) (by omega)] at h42)
            refine z_aload_n 46 dX10_mixAll_45 rfl rfl ?_
            refine z_aload_n 47 dX10_mixAll_46 rfl rfl ?_
            refine gX10_35 50 rfl dX10_mixAll_47 rfl ?_
            refine z_bipush 52 (v := nI 80) dX10_mixAll_50 rfl rfl ?_
            refine z_iload_n 53 dX10_mixAll_52 rfl rfl ?_
            refine z_imul 54 dX10_mixAll_53 rfl ?_
            refine z_iload_n 55 dX10_mixAll_54 rfl rfl ?_
            refine z_iadd 56 dX10_mixAll_55 rfl ?_
            rw [nI_mul, nI_add]
            refine z_ialdn 57 dX10_mixAll_56 rfl (by first | assumption | rfl) (by omega) ?_
            rw [hvi]
            refine z_cVV1 60 (tX10_mix hW hR hv) kX10_mix dX10_mixAll_57 rfl lX10_340 (by first | assumption | rfl) (Nat.le_of_ble_eq_true rfl) ?_
            rintro τ1 ⟨hF1, hX1, hv1⟩
            refine zs_iinc_2_3_1 63 rfl dX10_mixAll_60 rfl rfl ?_
            rw [nI_add]
            refine z_goto 32 dX10_mixAll_63 rfl ?_
            exact jh (j + 1) (by omega) (by omega) τ1 (hF.tr hF1 (fun _ _ h => h) (fun _ _ h => h)) hX1 hv1
      have hbs : gi τ 109 i = nI (sBw S i) := (hR.2.2.1 i (by omega)).1
      by_cases h0 : sBw S i = 0
      · rw [if_pos h0] at inner
        rw [h0] at hbs
        refine z_iload_n 3 dX10_mixAll_2 rfl rfl ?_
        refine z_iconst 4 (v := nI 2) dX10_mixAll_3 rfl rfl ?_
        refine z_icmp_ge 72 7 dX10_mixAll_4 (by decide) rfl (fun h4 => ?_) (fun h4 => ?_)
        · (try rw [nI_leI (by omega) (by omega)] at h4)
          omega
        · (try rw [nI_leI (by omega) (by omega)] at h4)
          refine z_aload_n 8 dX10_mixAll_7 rfl rfl ?_
          refine z_aload_n 9 dX10_mixAll_8 rfl rfl ?_
          refine gX10_32 12 rfl dX10_mixAll_9 rfl ?_
          refine z_iload_n 13 dX10_mixAll_12 rfl rfl ?_
          refine z_ialdn 14 dX10_mixAll_13 rfl (by first | assumption | rfl) (by omega) ?_
          rw [hbs]
          refine z_if_ne 21 17 dX10_mixAll_14 (by decide) rfl (fun h14 => ?_) (fun h14 => ?_)
          · (try rw [nI_eq0 (by omega)] at h14)
            exact absurd rfl h14
          · (try rw [nI_eq0 (by omega)] at h14)
            refine z_iconst 18 (v := (-1)) dX10_mixAll_17 rfl rfl ?_
            refine z_goto 27 dX10_mixAll_18 rfl ?_
            refine z_cVV1 30 (tX10_mix hW hR hv) kX10_mix dX10_mixAll_27 rfl lX10_340 (by first | assumption | rfl) (Nat.le_of_ble_eq_true rfl) ?_
            rintro τ1 ⟨hF1, hX1, hv1⟩
            refine z_iconst 31 (v := nI 0) dX10_mixAll_30 rfl rfl ?_
            refine zs_istore_n_2_3 32 rfl dX10_mixAll_31 rfl rfl ?_
            exact inner 0 (by omega) τ1 (hF.tr hF1 (fun _ _ h => h) (fun _ _ h => h)) hX1 hv1
      · rw [if_neg h0] at inner
        refine z_iload_n 3 dX10_mixAll_2 rfl rfl ?_
        refine z_iconst 4 (v := nI 2) dX10_mixAll_3 rfl rfl ?_
        refine z_icmp_ge 72 7 dX10_mixAll_4 (by decide) rfl (fun h4 => ?_) (fun h4 => ?_)
        · (try rw [nI_leI (by omega) (by omega)] at h4)
          omega
        · (try rw [nI_leI (by omega) (by omega)] at h4)
          refine z_aload_n 8 dX10_mixAll_7 rfl rfl ?_
          refine z_aload_n 9 dX10_mixAll_8 rfl rfl ?_
          refine gX10_32 12 rfl dX10_mixAll_9 rfl ?_
          refine z_iload_n 13 dX10_mixAll_12 rfl rfl ?_
          refine z_ialdn 14 dX10_mixAll_13 rfl (by first | assumption | rfl) (by omega) ?_
          rw [hbs]
          refine z_if_ne 21 17 dX10_mixAll_14 (by decide) rfl (fun h14 => ?_) (fun h14 => ?_)
          · (try rw [nI_eq0 (by omega)] at h14)
            refine z_aload_n 22 dX10_mixAll_21 rfl rfl ?_
            refine gX10_32 25 rfl dX10_mixAll_22 rfl ?_
            refine z_iload_n 26 dX10_mixAll_25 rfl rfl ?_
            refine z_ialdn 27 dX10_mixAll_26 rfl (by first | assumption | rfl) (by omega) ?_
            rw [hbs]
            refine z_cVV1 30 (tX10_mix hW hR hv) kX10_mix dX10_mixAll_27 rfl lX10_340 (by first | assumption | rfl) (Nat.le_of_ble_eq_true rfl) ?_
            rintro τ1 ⟨hF1, hX1, hv1⟩
            refine z_iconst 31 (v := nI 0) dX10_mixAll_30 rfl rfl ?_
            refine zs_istore_n_2_3 32 rfl dX10_mixAll_31 rfl rfl ?_
            exact inner 0 (by omega) τ1 (hF.tr hF1 (fun _ _ h => h) (fun _ _ h => h)) hX1 hv1
          · (try rw [nI_eq0 (by omega)] at h14)
            exact absurd h14 h0
  refine z_iconst 1 (v := nI 0) dX10_mixAll_0 rfl rfl ?_
  refine zs_istore_n_1_3 2 rfl dX10_mixAll_1 rfl rfl ?_
  exact stB 0 (by omega) none σ Fr.rf hX hh
set_option maxRecDepth 20000 in
theorem tX10_digest {E : zE} {d : Nat} {σ : zM} {S : sS} (hW : WF S) (hX : RM S σ) : Ret E mX10_digest (d + 3) [zr E 102] σ (qJ fun x τ => x = dg6 S ∧ Fr h38 σ τ ∧ RM S τ) := by
  refine Ret.of [some (zr E 102), none, none] (by decide +kernel) (Nat.le_of_ble_eq_true rfl) rfl ?_
  have stF : ∀ i, i ≤ 4 → ∀ y τ, Fr h38 σ τ → RM S τ → gl τ 102 38 = rD (sT S) (dg5 S) i → At E mX10_digest (d + 3) (qJ fun x τ => x = dg6 S ∧ Fr h38 σ τ ∧ RM S τ) 101 [some (zr E 102), some (.int (nI i)), y] [] τ := by
    refine z_up (fun i hi ih y τ hF hR hv => ?_)
    by_cases hie : i = 4
    · rw [hie] at hv ⊢
      refine z_iload_n 102 dX10_digest_101 rfl rfl ?_
      refine z_iconst 103 (v := nI 4) dX10_digest_102 rfl rfl ?_
      refine z_icmp_ge 168 106 dX10_digest_103 (by decide) rfl (fun h103 => ?_) (fun h103 => ?_)
      · (try rw [nI_leI (by omega) (by omega)] at h103)
        refine z_aload_n 169 dX10_digest_168 rfl rfl ?_
        refine gX10_337 172 rfl dX10_digest_169 rfl ?_
        rw [hv]
        refine z_rl dX10_digest_172 rfl ?_
        exact ⟨rfl, hF, hR⟩
      · (try rw [nI_leI (by omega) (by omega)] at h103)
        omega
    · have hi4 : i < 4 := by omega
      cases ho : sT S i with
      | none =>
        have key : ∀ τ, RM S τ → gi τ 107 i = -9 := fun τ h => by
          have q := h.2.1 i hi4
          rw [show S.2.1 i = sT S i from rfl, ho] at q
          exact q
        have er : rD (sT S) (dg5 S) (i + 1) = mx (rD (sT S) (dg5 S) i) (-1) := by
          show rwD (sT S i) _ = _
          rw [ho]
          rfl
        refine z_iload_n 102 dX10_digest_101 rfl rfl ?_
        refine z_iconst 103 (v := nI 4) dX10_digest_102 rfl rfl ?_
        refine z_icmp_ge 168 106 dX10_digest_103 (by decide) rfl (fun h103 => ?_) (fun h103 => ?_)
        · (try rw [nI_leI (by omega) (by omega)] at h103)
          omega
        · (try rw [nI_leI (by omega) (by omega)] at h103)
          refine z_aload_n 107 dX10_digest_106 rfl rfl ?_
          refine z_aload_n 108 dX10_digest_107 rfl rfl ?_
          refine gX10_26 111 rfl dX10_digest_108 rfl ?_
          refine z_iload_n 112 dX10_digest_111 rfl rfl ?_
          refine z_ialdn 113 dX10_digest_112 rfl (by first | assumption | rfl) (by omega) ?_
          rw [key τ hR]
          refine z_if_ge 120 116 dX10_digest_113 (by decide) rfl (fun h113 => ?_) (fun h113 => ?_)
          · exact absurd h113 (by decide)
          · refine z_iconst 117 (v := (-1)) dX10_digest_116 rfl rfl ?_
            refine z_goto 126 dX10_digest_117 rfl ?_
            refine z_cVV1 129 (tX10_mix hW hR hv) kX10_mix dX10_digest_126 rfl lX10_340 (by first | assumption | rfl) (Nat.le_of_ble_eq_true rfl) ?_
            rintro τ1 ⟨hF1, hX1, hv1⟩
            refine z_iconst 130 (v := nI 0) dX10_digest_129 rfl rfl ?_
            refine zs_istore_n_2_3 131 rfl dX10_digest_130 rfl rfl ?_
            refine z_iload_n 132 dX10_digest_131 rfl rfl ?_
            refine z_aload_n 133 dX10_digest_132 rfl rfl ?_
            refine gX10_26 136 rfl dX10_digest_133 rfl ?_
            refine z_iload_n 137 dX10_digest_136 rfl rfl ?_
            refine z_ialdn 138 dX10_digest_137 rfl (by first | assumption | rfl) (by omega) ?_
            rw [key τ1 hX1]
            refine z_icmp_ge 162 141 dX10_digest_138 (by decide) rfl (fun h138 => ?_) (fun h138 => ?_)
            · refine zs_iinc_1_3_1 165 rfl dX10_digest_162 rfl rfl ?_
              rw [nI_add]
              refine z_goto 101 dX10_digest_165 rfl ?_
              exact ih (i + 1) (by omega) (by omega) _ τ1 (hF.tr hF1 (fun _ _ h => h) (fun _ _ h => h)) hX1 (by rw [er]; exact hv1)
            · exact absurd (by decide) h138
      | some q =>
        have key : ∀ τ, RM S τ → mSh τ 107 108 i 120 (some q) := fun τ h => by
          have q := h.2.1 i hi4
          rw [show S.2.1 i = sT S i from rfl, ho] at q
          exact q
        have hq := (key τ hR).1
        have er : rD (sT S) (dg5 S) (i + 1) = fmx q.2 (mx (rD (sT S) (dg5 S) i) (nI q.1)) q.1 := by
          show rwD (sT S i) _ = _
          rw [ho]
          rfl
        have inner : ∀ j, j ≤ q.1 → ∀ τ, Fr h38 σ τ → RM S τ → gl τ 102 38 = fmx q.2 (mx (rD (sT S) (dg5 S) i) (nI q.1)) j → At E mX10_digest (d + 3) (qJ fun x τ => x = dg6 S ∧ Fr h38 σ τ ∧ RM S τ) 131 [some (zr E 102), some (.int (nI i)), some (.int (nI j))] [] τ := by
          refine z_up (fun j hj jh τ hF hR hv => ?_)
          by_cases hje : j = q.1
          · rw [hje] at hv ⊢
            refine z_iload_n 132 dX10_digest_131 rfl rfl ?_
            refine z_aload_n 133 dX10_digest_132 rfl rfl ?_
            refine gX10_26 136 rfl dX10_digest_133 rfl ?_
            refine z_iload_n 137 dX10_digest_136 rfl rfl ?_
            refine z_ialdn 138 dX10_digest_137 rfl (by first | assumption | rfl) (by omega) ?_
            rw [(key τ hR).2.1]
            refine z_icmp_ge 162 141 dX10_digest_138 (by decide) rfl (fun h138 => ?_) (fun h138 => ?_)
            · (try rw [nI_leI (by omega) (by omega)] at h138)
              refine zs_iinc_1_3_1 165 rfl dX10_digest_162 rfl rfl ?_
              rw [nI_add]
              refine z_goto 101 dX10_digest_165 rfl ?_
              exact ih (i + 1) (by omega) (by omega) _ τ hF hR (by rw [er]; exact hv)
            · (try rw [nI_leI (by omega) (by omega)] at h138)
              omega
          · refine z_iload_n 132 dX10_digest_131 rfl rfl ?_
            refine z_aload_n 133 dX10_digest_132 rfl rfl ?_
            refine gX10_26 136 rfl dX10_digest_133 rfl ?_
            refine z_iload_n 137 dX10_digest_136 rfl rfl ?_
            refine z_ialdn 138 dX10_digest_137 rfl (by first | assumption | rfl) (by omega) ?_
            rw [(key τ hR).2.1]
            refine z_icmp_ge 162 141 dX10_digest_138 (by decide) rfl (fun h138 => ?_) (fun h138 => ?_)
            · (try rw [nI_leI (by omega) (by omega)] at h138)
              omega
            · (try rw [nI_leI (by omega) (by omega)] at h138)
              refine z_aload_n 142 dX10_digest_141 rfl rfl ?_
              refine z_aload_n 143 dX10_digest_142 rfl rfl ?_
              refine gX10_29 146 rfl dX10_digest_143 rfl ?_
              refine z_bipush 148 (v := nI 120) dX10_digest_146 rfl rfl ?_
              refine z_iload_n 149 dX10_digest_148 rfl rfl ?_
              refine z_imul 150 dX10_digest_149 rfl ?_
              refine z_iload_n 151 dX10_digest_150 rfl rfl ?_
              refine z_iadd 152 dX10_digest_151 rfl ?_
              rw [nI_mul, nI_add]
              refine z_ialdn 153 dX10_digest_152 rfl (by first | assumption | rfl) (by omega) ?_
              rw [(key τ hR).2.2 j (by omega)]
              refine z_cVV1 156 (tX10_mix hW hR hv) kX10_mix dX10_digest_153 rfl lX10_340 (by first | assumption | rfl) (Nat.le_of_ble_eq_true rfl) ?_
              rintro τ1 ⟨hF1, hX1, hv1⟩
              refine zs_iinc_2_3_1 159 rfl dX10_digest_156 rfl rfl ?_
              rw [nI_add]
              refine z_goto 131 dX10_digest_159 rfl ?_
              exact jh (j + 1) (by omega) (by omega) τ1 (hF.tr hF1 (fun _ _ h => h) (fun _ _ h => h)) hX1 hv1
        refine z_iload_n 102 dX10_digest_101 rfl rfl ?_
        refine z_iconst 103 (v := nI 4) dX10_digest_102 rfl rfl ?_
        refine z_icmp_ge 168 106 dX10_digest_103 (by decide) rfl (fun h103 => ?_) (fun h103 => ?_)
        · (try rw [nI_leI (by omega) (by omega)] at h103)
          omega
        · (try rw [nI_leI (by omega) (by omega)] at h103)
          refine z_aload_n 107 dX10_digest_106 rfl rfl ?_
          refine z_aload_n 108 dX10_digest_107 rfl rfl ?_
          refine gX10_26 111 rfl dX10_digest_108 rfl ?_
          refine z_iload_n 112 dX10_digest_111 rfl rfl ?_
          refine z_ialdn 113 dX10_digest_112 rfl (by first | assumption | rfl) (by omega) ?_
          rw [(key τ hR).2.1]
          refine z_if_ge 120 116 dX10_digest_113 (by decide) rfl (fun h113 => ?_) (fun h113 => ?_)
          · refine z_aload_n 121 dX10_digest_120 rfl rfl ?_
            refine gX10_26 124 rfl dX10_digest_121 rfl ?_
            refine z_iload_n 125 dX10_digest_124 rfl rfl ?_
            refine z_ialdn 126 dX10_digest_125 rfl (by first | assumption | rfl) (by omega) ?_
            rw [(key τ hR).2.1]
            refine z_cVV1 129 (tX10_mix hW hR hv) kX10_mix dX10_digest_126 rfl lX10_340 (by first | assumption | rfl) (Nat.le_of_ble_eq_true rfl) ?_
            rintro τ1 ⟨hF1, hX1, hv1⟩
            refine z_iconst 130 (v := nI 0) dX10_digest_129 rfl rfl ?_
            refine zs_istore_n_2_3 131 rfl dX10_digest_130 rfl rfl ?_
            exact inner 0 (by omega) τ1 (hF.tr hF1 (fun _ _ h => h) (fun _ _ h => h)) hX1 hv1
          · exact absurd (nI_pos' (by omega)) h113
  have stE : ∀ i, i ≤ 6 → ∀ y τ, Fr h38 σ τ → RM S τ → gl τ 102 38 = rD (sR S) (dg4 S) i → At E mX10_digest (d + 3) (qJ fun x τ => x = dg6 S ∧ Fr h38 σ τ ∧ RM S τ) 36 [some (zr E 102), some (.int (nI i)), y] [] τ := by
    refine z_up (fun i hi ih y τ hF hR hv => ?_)
    by_cases hie : i = 6
    · rw [hie] at hv ⊢
      refine z_iload_n 37 dX10_digest_36 rfl rfl ?_
      refine z_bipush 39 (v := nI 6) dX10_digest_37 rfl rfl ?_
      refine z_icmp_ge 99 42 dX10_digest_39 (by decide) rfl (fun h39 => ?_) (fun h39 => ?_)
      · (try rw [nI_leI (by omega) (by omega)] at h39)
        refine z_iconst 100 (v := nI 0) dX10_digest_99 rfl rfl ?_
        refine zs_istore_n_1_3 101 rfl dX10_digest_100 rfl rfl ?_
        exact stF 0 (by omega) y τ hF hR hv
      · (try rw [nI_leI (by omega) (by omega)] at h39)
        omega
    · have hi4 : i < 6 := by omega
      cases ho : sR S i with
      | none =>
        have key : ∀ τ, RM S τ → gi τ 104 i = -9 := fun τ h => by
          have q := h.1 i hi4
          rw [show S.1 i = sR S i from rfl, ho] at q
          exact q
        have er : rD (sR S) (dg4 S) (i + 1) = mx (rD (sR S) (dg4 S) i) (-1) := by
          show rwD (sR S i) _ = _
          rw [ho]
          rfl
        refine z_iload_n 37 dX10_digest_36 rfl rfl ?_
        refine z_bipush 39 (v := nI 6) dX10_digest_37 rfl rfl ?_
        refine z_icmp_ge 99 42 dX10_digest_39 (by decide) rfl (fun h39 => ?_) (fun h39 => ?_)
        · (try rw [nI_leI (by omega) (by omega)] at h39)
          omega
        · (try rw [nI_leI (by omega) (by omega)] at h39)
          refine z_aload_n 43 dX10_digest_42 rfl rfl ?_
          refine z_aload_n 44 dX10_digest_43 rfl rfl ?_
          refine gX10_17 47 rfl dX10_digest_44 rfl ?_
          refine z_iload_n 48 dX10_digest_47 rfl rfl ?_
          refine z_ialdn 49 dX10_digest_48 rfl (by first | assumption | rfl) (by omega) ?_
          rw [key τ hR]
          refine z_if_ge 56 52 dX10_digest_49 (by decide) rfl (fun h49 => ?_) (fun h49 => ?_)
          · exact absurd h49 (by decide)
          · refine z_iconst 53 (v := (-1)) dX10_digest_52 rfl rfl ?_
            refine z_goto 62 dX10_digest_53 rfl ?_
            refine z_cVV1 65 (tX10_mix hW hR hv) kX10_mix dX10_digest_62 rfl lX10_340 (by first | assumption | rfl) (Nat.le_of_ble_eq_true rfl) ?_
            rintro τ1 ⟨hF1, hX1, hv1⟩
            refine z_iconst 66 (v := nI 0) dX10_digest_65 rfl rfl ?_
            refine zs_istore_n_2_3 67 rfl dX10_digest_66 rfl rfl ?_
            refine z_iload_n 68 dX10_digest_67 rfl rfl ?_
            refine z_aload_n 69 dX10_digest_68 rfl rfl ?_
            refine gX10_17 72 rfl dX10_digest_69 rfl ?_
            refine z_iload_n 73 dX10_digest_72 rfl rfl ?_
            refine z_ialdn 74 dX10_digest_73 rfl (by first | assumption | rfl) (by omega) ?_
            rw [key τ1 hX1]
            refine z_icmp_ge 93 77 dX10_digest_74 (by decide) rfl (fun h74 => ?_) (fun h74 => ?_)
            · refine zs_iinc_1_3_1 96 rfl dX10_digest_93 rfl rfl ?_
              rw [nI_add]
              refine z_goto 36 dX10_digest_96 rfl ?_
              exact ih (i + 1) (by omega) (by omega) _ τ1 (hF.tr hF1 (fun _ _ h => h) (fun _ _ h => h)) hX1 (by rw [er]; exact hv1)
            · exact absurd (by decide) h74
      | some q =>
        have key : ∀ τ, RM S τ → mSh τ 104 105 i 40 (some q) := fun τ h => by
          have q := h.1 i hi4
          rw [show S.1 i = sR S i from rfl, ho] at q
          exact q
        have hq := (key τ hR).1
        have er : rD (sR S) (dg4 S) (i + 1) = fmx q.2 (mx (rD (sR S) (dg4 S) i) (nI q.1)) q.1 := by
          show rwD (sR S i) _ = _
          rw [ho]
          rfl
        have inner : ∀ j, j ≤ q.1 → ∀ τ, Fr h38 σ τ → RM S τ → gl τ 102 38 = fmx q.2 (mx (rD (sR S) (dg4 S) i) (nI q.1)) j → At E mX10_digest (d + 3) (qJ fun x τ => x = dg6 S ∧ Fr h38 σ τ ∧ RM S τ) 67 [some (zr E 102), some (.int (nI i)), some (.int (nI j))] [] τ := by
          refine z_up (fun j hj jh τ hF hR hv => ?_)
          by_cases hje : j = q.1
          · rw [hje] at hv ⊢
            refine z_iload_n 68 dX10_digest_67 rfl rfl ?_
            refine z_aload_n 69 dX10_digest_68 rfl rfl ?_
            refine gX10_17 72 rfl dX10_digest_69 rfl ?_
            refine z_iload_n 73 dX10_digest_72 rfl rfl ?_
            refine z_ialdn 74 dX10_digest_73 rfl (by first | assumption | rfl) (by omega) ?_
            rw [(key τ hR).2.1]
            refine z_icmp_ge 93 77 dX10_digest_74 (by decide) rfl (fun h74 => ?_) (fun h74 => ?_)
            · (try rw [nI_leI (by omega) (by omega)] at h74)
              refine zs_iinc_1_3_1 96 rfl dX10_digest_93 rfl rfl ?_
              rw [nI_add]
              refine z_goto 36 dX10_digest_96 rfl ?_
              exact ih (i + 1) (by omega) (by omega) _ τ hF hR (by rw [er]; exact hv)
            · (try rw [nI_leI (by omega) (by omega)] at h74)
              omega
          · refine z_iload_n 68 dX10_digest_67 rfl rfl ?_
            refine z_aload_n 69 dX10_digest_68 rfl rfl ?_
            refine gX10_17 72 rfl dX10_digest_69 rfl ?_
            refine z_iload_n 73 dX10_digest_72 rfl rfl ?_
            refine z_ialdn 74 dX10_digest_73 rfl (by first | assumption | rfl) (by omega) ?_
            rw [(key τ hR).2.1]
            refine z_icmp_ge 93 77 dX10_digest_74 (by decide) rfl (fun h74 => ?_) (fun h74 => ?_)
            · (try rw [nI_leI (by omega) (by omega)] at h74)
              omega
            · (try rw [nI_leI (by omega) (by omega)] at h74)
              refine z_aload_n 78 dX10_digest_77 rfl rfl ?_
              refine z_aload_n 79 dX10_digest_78 rfl rfl ?_
              refine z_iload_n 80 dX10_digest_79 rfl rfl ?_
              refine z_iload_n 81 dX10_digest_80 rfl rfl ?_
              refine z_cVI2 84 (tX10_rowAt (by omega) (by omega)) kX10_rowAt dX10_digest_81 rfl lX10_113 (by first | assumption | rfl) (Nat.le_of_ble_eq_true rfl) ?_
              rintro _ _ ⟨e1, e2⟩
              replace e1 := e1.symm
              replace e2 := e2.symm
              subst e1
              subst e2
              rw [(key τ hR).2.2 j (by omega)]
              refine z_cVV1 87 (tX10_mix hW hR hv) kX10_mix dX10_digest_84 rfl lX10_340 (by first | assumption | rfl) (Nat.le_of_ble_eq_true rfl) ?_
              rintro τ1 ⟨hF1, hX1, hv1⟩
              refine zs_iinc_2_3_1 90 rfl dX10_digest_87 rfl rfl ?_
              rw [nI_add]
              refine z_goto 67 dX10_digest_90 rfl ?_
              exact jh (j + 1) (by omega) (by omega) τ1 (hF.tr hF1 (fun _ _ h => h) (fun _ _ h => h)) hX1 hv1
        refine z_iload_n 37 dX10_digest_36 rfl rfl ?_
        refine z_bipush 39 (v := nI 6) dX10_digest_37 rfl rfl ?_
        refine z_icmp_ge 99 42 dX10_digest_39 (by decide) rfl (fun h39 => ?_) (fun h39 => ?_)
        · (try rw [nI_leI (by omega) (by omega)] at h39)
          omega
        · (try rw [nI_leI (by omega) (by omega)] at h39)
          refine z_aload_n 43 dX10_digest_42 rfl rfl ?_
          refine z_aload_n 44 dX10_digest_43 rfl rfl ?_
          refine gX10_17 47 rfl dX10_digest_44 rfl ?_
          refine z_iload_n 48 dX10_digest_47 rfl rfl ?_
          refine z_ialdn 49 dX10_digest_48 rfl (by first | assumption | rfl) (by omega) ?_
          rw [(key τ hR).2.1]
          refine z_if_ge 56 52 dX10_digest_49 (by decide) rfl (fun h49 => ?_) (fun h49 => ?_)
          · refine z_aload_n 57 dX10_digest_56 rfl rfl ?_
            refine gX10_17 60 rfl dX10_digest_57 rfl ?_
            refine z_iload_n 61 dX10_digest_60 rfl rfl ?_
            refine z_ialdn 62 dX10_digest_61 rfl (by first | assumption | rfl) (by omega) ?_
            rw [(key τ hR).2.1]
            refine z_cVV1 65 (tX10_mix hW hR hv) kX10_mix dX10_digest_62 rfl lX10_340 (by first | assumption | rfl) (Nat.le_of_ble_eq_true rfl) ?_
            rintro τ1 ⟨hF1, hX1, hv1⟩
            refine z_iconst 66 (v := nI 0) dX10_digest_65 rfl rfl ?_
            refine zs_istore_n_2_3 67 rfl dX10_digest_66 rfl rfl ?_
            exact inner 0 (by omega) τ1 (hF.tr hF1 (fun _ _ h => h) (fun _ _ h => h)) hX1 hv1
          · exact absurd (nI_pos' (by omega)) h49
  have stA : ∀ i, i ≤ 8 → ∀ y τ, Fr h38 σ τ → RM S τ → gl τ 102 38 = fmx (cV S) 17 i → At E mX10_digest (d + 3) (qJ fun x τ => x = dg6 S ∧ Fr h38 σ τ ∧ RM S τ) 9 [some (zr E 102), some (.int (nI i)), y] [] τ := by
    refine z_up (fun i hi ih y τ hF hR hv => ?_)
    by_cases hie : i = 8
    · rw [hie] at hv ⊢
      refine z_iload_n 10 dX10_digest_9 rfl rfl ?_
      refine z_bipush 12 (v := nI 7) dX10_digest_10 rfl rfl ?_
      refine z_icmp_gt 30 15 dX10_digest_12 (by decide) rfl (fun h12 => ?_) (fun h12 => ?_)
      · (try rw [nI_ltI (by omega) (by omega)] at h12)
        refine z_aload_n 31 dX10_digest_30 rfl rfl ?_
        refine z_cVV0 34 (tX10_mixAll hW hR hv) kX10_mixAll dX10_digest_31 rfl lX10_345 (by first | assumption | rfl) (Nat.le_of_ble_eq_true rfl) ?_
        rintro τ1 ⟨hF1, hX1, hv1⟩
        refine z_iconst 35 (v := nI 0) dX10_digest_34 rfl rfl ?_
        refine zs_istore_n_1_3 36 rfl dX10_digest_35 rfl rfl ?_
        exact stE 0 (by omega) y τ1 (hF.tr hF1 (fun _ _ h => h) (fun _ _ h => h)) hX1 hv1
      · (try rw [nI_ltI (by omega) (by omega)] at h12)
        omega
    · refine z_iload_n 10 dX10_digest_9 rfl rfl ?_
      refine z_bipush 12 (v := nI 7) dX10_digest_10 rfl rfl ?_
      refine z_icmp_gt 30 15 dX10_digest_12 (by decide) rfl (fun h12 => ?_) (fun h12 => ?_)
      · (try rw [nI_ltI (by omega) (by omega)] at h12)
        omega
      · (try rw [nI_ltI (by omega) (by omega)] at h12)
        refine z_aload_n 16 dX10_digest_15 rfl rfl ?_
        refine z_aload_n 17 dX10_digest_16 rfl rfl ?_
        refine z_iload_n 18 dX10_digest_17 rfl rfl ?_
        refine z_cVI1 21 (tX10_counts hW hR (show i < 8 by omega)) kX10_counts dX10_digest_18 rfl lX10_332 (by first | assumption | rfl) (Nat.le_of_ble_eq_true rfl) ?_
        rintro _ _ ⟨e1, e2⟩
        replace e1 := e1.symm
        replace e2 := e2.symm
        subst e1
        subst e2
        refine z_cVV1 24 (tX10_mix hW hR hv) kX10_mix dX10_digest_21 rfl lX10_340 (by first | assumption | rfl) (Nat.le_of_ble_eq_true rfl) ?_
        rintro τ1 ⟨hF1, hX1, hv1⟩
        refine zs_iinc_1_3_1 27 rfl dX10_digest_24 rfl rfl ?_
        rw [nI_add]
        refine z_goto 9 dX10_digest_27 rfl ?_
        exact ih (i + 1) (by omega) (by omega) y τ1 (hF.tr hF1 (fun _ _ h => h) (fun _ _ h => h)) hX1 hv1
  have hf0 : Fr h38 σ (sl σ 102 38 17) := Fr.rf.sl _ ⟨rfl, rfl⟩
  refine z_aload_n 1 dX10_digest_0 rfl rfl ?_
  refine z_ldc2 4 dX10_digest_1 rfl qX10_343 ?_
  refine pX10_337 7 rfl dX10_digest_4 rfl ?_
  refine z_iconst 8 (v := nI 0) dX10_digest_7 rfl rfl ?_
  refine zs_istore_n_1_3 9 rfl dX10_digest_8 rfl rfl ?_
  exact stA 0 (by omega) none _ hf0 (hX.scr hW (hf0.mono (by unfold mS; intros; omega))) (gl_s1 _ _ _ _)
