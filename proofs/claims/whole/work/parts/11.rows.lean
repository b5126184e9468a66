/-! promises 2 to 5, 8, 9: both sides against one value -/
abbrev xAll (a _ : Nat) : Prop := a < 102
abbrev mAll (a _ : Nat) : Prop := 102 ≤ a
abbrev qX (σ : zM) (p : Int32 × sS) : Option Value → zM → Prop := qI fun x τ => x = p.1 ∧ RX p.2 τ ∧ Fr xAll σ τ
abbrev qM (σ : zM) (p : Int32 × sS) : Option Value → zM → Prop := qI fun x τ => x = p.1 ∧ RM p.2 τ ∧ Fr mAll σ τ
def xFd (σ : zM) (k : Nat) : zM := si (si σ 6 1 (nI k)) 7 k (gi σ 7 k + nI 1)
theorem XA.fd {A : sAn} {σ : zM} {k : Nat} (h : XA A σ) (hk : k < 6) : XA (aFd A k) (xFd σ k) := by
  obtain ⟨h1, h2, h3, h4, h5⟩ := h
  refine ⟨?_, fun f hf => ?_, ?_, h4, h5⟩
  · unfold xFd
    rw [gi_s2 _ _ (by omega), gi_s1]; rfl
  · show _ = zu A.2.1 k (A.2.1 k + nI 1) f
    unfold xFd zu
    rw [gi_si]
    by_cases hfk : f = k
    · rw [if_pos ⟨rfl, hfk⟩, if_pos hfk, h2 k hk]
    · rw [if_neg (fun z => hfk z.2), if_neg hfk, gi_s2 _ _ (by omega)]
      exact h2 f hf
  · unfold xFd
    rw [gi_s2 _ _ (by omega), gi_s2 _ _ (by omega)]
    exact h3
theorem MA.fd {A : sAn} {σ : zM} {k : Nat} (h : MA A σ) (hk : k < 6) : MA (aFd A k) (mMt σ k) := by
  obtain ⟨h1, h2, h3, h4, h5⟩ := h
  refine ⟨?_, fun f hf => ?_, ?_, h4, h5⟩
  · unfold mMt
    rw [gi_s2 _ _ (by omega), gi_s1]; rfl
  · show _ = zu A.2.1 k (A.2.1 k + nI 1) f
    unfold mMt zu
    rw [gi_si]
    by_cases hfk : f = k
    · rw [if_pos ⟨rfl, hfk⟩, if_pos hfk, h2 k hk]
    · rw [if_neg (fun z => hfk z.2), if_neg hfk, gi_s2 _ _ (by omega)]
      exact h2 f hf
  · unfold mMt
    rw [gi_s2 _ _ (by omega), gi_s2 _ _ (by omega)]
    exact h3
theorem RX.A {S : sS} {σ τ : zM} {A : sAn} (hW : WF S) (h : RX S σ) (hF : Fr (fun a _ => a = 6 ∨ a = 7) σ τ) (hA : XA A τ) : RX (setA S A) τ := ⟨h.1.fr hF (by intros; omega), h.2.1.fr hF (by intros; omega), h.2.2.1.fr hF (by intros; omega), h.2.2.2.1.fr hW.2.1.1 hF (by intros; omega), h.2.2.2.2.1.fr hW.2.2.1 hF (by intros; omega), hA⟩
theorem RM.A {S : sS} {σ τ : zM} {A : sAn} (hW : WF S) (h : RM S σ) (hF : Fr (fun a j => a = 102 ∧ (j = 0 ∨ j = 2 ∨ j = 3 ∨ j = 4) ∨ a = 103) σ τ) (hA : MA A τ) : RM (setA S A) τ := ⟨h.1.fr hF (by intros; omega), h.2.1.fr hF (by intros; omega), h.2.2.1.fr (fun l hl => (hW.1 l hl).1) hF (by intros; omega), h.2.2.2.1.fr hW.2.1.1 hF (by intros; omega), h.2.2.2.2.1.fr hF (by intros; omega), hA⟩
theorem xFd_fr (σ : zM) (k : Nat) : Fr (fun a _ => a = 6 ∨ a = 7) σ (xFd σ k) := (Fr.rf.si _ (Or.inl rfl)).si _ (Or.inr rfl)
theorem mMt_fr (σ : zM) (k : Nat) : Fr (fun a j => a = 102 ∧ (j = 0 ∨ j = 2 ∨ j = 3 ∨ j = 4) ∨ a = 103) σ (mMt σ k) := (Fr.rf.si _ (Or.inl ⟨rfl, Or.inl rfl⟩)).si _ (Or.inr rfl)
theorem qx0 {p : Int32 × sS} {S : sS} {σ0 σ : zM} {x : Int32} (e : p = (x, S)) (hX : RX S σ) (hF : Fr xAll σ0 σ) : x = p.1 ∧ RX p.2 σ ∧ Fr xAll σ0 σ := by rw [e]; exact ⟨rfl, hX, hF⟩
theorem qm0 {p : Int32 × sS} {S : sS} {σ0 σ : zM} {x : Int32} (e : p = (x, S)) (hX : RM S σ) (hF : Fr mAll σ0 σ) : x = p.1 ∧ RM p.2 σ ∧ Fr mAll σ0 σ := by rw [e]; exact ⟨rfl, hX, hF⟩
theorem qxf {p : Int32 × sS} {S : sS} {σ0 σ : zM} {k : Nat} (hW : WF S) (e : p = sFd S k) (hk : k < 6) (hX : RX S σ) (hF : Fr xAll σ0 σ) : -3 = p.1 ∧ RX p.2 (xFd σ k) ∧ Fr xAll σ0 (xFd σ k) := by
  rw [e]
  exact ⟨rfl, hX.A hW (xFd_fr σ k) (hX.2.2.2.2.2.fd hk), hF.tr (xFd_fr σ k) (fun _ _ h => h) (by intros; omega)⟩
theorem qmf {p : Int32 × sS} {S : sS} {σ0 σ : zM} {k : Nat} (hW : WF S) (e : p = sFd S k) (hk : k < 6) (hX : RM S σ) (hF : Fr mAll σ0 σ) : -3 = p.1 ∧ RM p.2 (mMt σ k) ∧ Fr mAll σ0 (mMt σ k) := by
  rw [e]
  exact ⟨rfl, hX.A hW (mMt_fr σ k) (hX.2.2.2.2.2.fd hk), hF.tr (mMt_fr σ k) (fun _ _ h => h) (by intros; omega)⟩
theorem qxa {p : Int32 × sS} {S : sS} {σ0 σ : zM} {v x : Int32} (hW : WF S) (e : p = sAsk S v x) (hX : RX S σ) (hF : Fr xAll σ0 σ) : x = p.1 ∧ RX p.2 (si σ 6 2 v) ∧ Fr xAll σ0 (si σ 6 2 v) := by
  rw [e]
  have hf : Fr (fun a _ => a = 6 ∨ a = 7) σ (si σ 6 2 v) := Fr.rf.si _ (Or.inl rfl)
  obtain ⟨h1, h2, h3, h4, h5⟩ := hX.2.2.2.2.2
  exact ⟨rfl, hX.A hW hf ⟨(gi_s2 _ _ (by omega)).trans h1, fun f hf => (gi_s2 _ _ (by omega)).trans (h2 f hf), gi_s1 _ _ _ _, h4, h5⟩, hF.tr hf (fun _ _ h => h) (by intros; omega)⟩
theorem qma {p : Int32 × sS} {S : sS} {σ0 σ : zM} {v x : Int32} (hW : WF S) (e : p = sAsk S v x) (hX : RM S σ) (hF : Fr mAll σ0 σ) : x = p.1 ∧ RM p.2 (si σ 102 2 v) ∧ Fr mAll σ0 (si σ 102 2 v) := by
  rw [e]
  have hf : Fr (fun a j => a = 102 ∧ (j = 0 ∨ j = 2 ∨ j = 3 ∨ j = 4) ∨ a = 103) σ (si σ 102 2 v) := Fr.rf.si _ (Or.inl ⟨rfl, Or.inr (Or.inl rfl)⟩)
  obtain ⟨h1, h2, h3, h4, h5⟩ := hX.2.2.2.2.2
  exact ⟨rfl, hX.A hW hf ⟨(gi_s2 _ _ (by omega)).trans h1, fun f hf => (gi_s2 _ _ (by omega)).trans (h2 f hf), gi_s1 _ _ _ _, h4, h5⟩, hF.tr hf (fun _ _ h => h) (by intros; omega)⟩
theorem RX.R {S : sS} {σ τ : zM} {r : Nat} {o : sRow} (hW : WF S) (h : RX S σ) (hF : Fr (fun x y => x = 24 + 2 * r ∧ y = 1 ∨ x = 24 + 2 * r + 1) σ τ) (hr : r < 6) (ho : Sh τ (24 + 2 * r) 40 o) : RX (setR S r o) τ := by
  refine ⟨fun q hq => ?_, h.2.1.fr hF (by intros; omega), h.2.2.1.fr hF (by intros; omega), h.2.2.2.1.fr hW.2.1.1 hF (by intros; omega), h.2.2.2.2.1.fr hW.2.2.1 hF (by intros; omega), h.2.2.2.2.2.fr hF (by intros; omega)⟩
  show Sh τ _ 40 (zu S.1 r o q)
  unfold zu
  by_cases hqr : q = r
  · subst hqr; rw [if_pos rfl]; exact ho
  · rw [if_neg hqr]; exact (h.1 q hq).fr hF (by omega) (by intros; omega)
theorem RX.T {S : sS} {σ τ : zM} {r : Nat} {o : sRow} (hW : WF S) (h : RX S σ) (hF : Fr (fun x y => x = 36 + 2 * r ∧ y = 1 ∨ x = 36 + 2 * r + 1) σ τ) (hr : r < 4) (ho : Sh τ (36 + 2 * r) 120 o) : RX (setT S r o) τ := by
  refine ⟨h.1.fr hF (by intros; omega), fun q hq => ?_, h.2.2.1.fr hF (by intros; omega), h.2.2.2.1.fr hW.2.1.1 hF (by intros; omega), h.2.2.2.2.1.fr hW.2.2.1 hF (by intros; omega), h.2.2.2.2.2.fr hF (by intros; omega)⟩
  show Sh τ _ 120 (zu S.2.1 r o q)
  unfold zu
  by_cases hqr : q = r
  · subst hqr; rw [if_pos rfl]; exact ho
  · rw [if_neg hqr]; exact (h.2.1 q hq).fr hF (by omega) (by intros; omega)
theorem RM.R {S : sS} {σ τ : zM} {r : Nat} {o : sRow} (hW : WF S) (h : RM S σ) (hF : Fr (fun x y => x = 104 ∧ y = r ∨ x = 105 ∧ 40 * r ≤ y ∧ y < 40 * r + 40) σ τ) (hr : r < 6) (ho : mSh τ 104 105 r 40 o) : RM (setR S r o) τ := by
  refine ⟨fun q hq => ?_, h.2.1.fr hF (by intros; omega), h.2.2.1.fr (fun l hl => (hW.1 l hl).1) hF (by intros; omega), h.2.2.2.1.fr hW.2.1.1 hF (by intros; omega), h.2.2.2.2.1.fr hF (by intros; omega), h.2.2.2.2.2.fr hF (by intros; omega)⟩
  show mSh τ _ _ _ 40 (zu S.1 r o q)
  unfold zu
  by_cases hqr : q = r
  · subst hqr; rw [if_pos rfl]; exact ho
  · rw [if_neg hqr]; exact (h.1 q hq).fr hF (by omega) (by intros; omega)
theorem RM.T {S : sS} {σ τ : zM} {r : Nat} {o : sRow} (hW : WF S) (h : RM S σ) (hF : Fr (fun x y => x = 107 ∧ y = r ∨ x = 108 ∧ 120 * r ≤ y ∧ y < 120 * r + 120) σ τ) (hr : r < 4) (ho : mSh τ 107 108 r 120 o) : RM (setT S r o) τ := by
  refine ⟨h.1.fr hF (by intros; omega), fun q hq => ?_, h.2.2.1.fr (fun l hl => (hW.1 l hl).1) hF (by intros; omega), h.2.2.2.1.fr hW.2.1.1 hF (by intros; omega), h.2.2.2.2.1.fr hF (by intros; omega), h.2.2.2.2.2.fr hF (by intros; omega)⟩
  show mSh τ _ _ _ 120 (zu S.2.1 r o q)
  unfold zu
  by_cases hqr : q = r
  · subst hqr; rw [if_pos rfl]; exact ho
  · rw [if_neg hqr]; exact (h.2.1 q hq).fr hF (by omega) (by intros; omega)
set_option maxRecDepth 20000 in
theorem tX0_found {E : zE} {d : Nat} {σ : zM} {k : Nat} (h1 : 1 ≤ k) (hk : k < 6) : Ret E mX0_found d [zr E 6, .int (nI k)] σ (qI fun x τ => x = -3 ∧ τ = xFd σ k) := by
  refine Ret.of [some (zr E 6), some (.int (nI k))] (by decide +kernel) (Nat.le_of_ble_eq_true rfl) rfl ?_
  refine z_aload_n 1 dX0_found_0 rfl rfl ?_
  refine z_iload_n 2 dX0_found_1 rfl rfl ?_
  refine pX0_19 5 rfl dX0_found_2 rfl (by first | assumption | rfl) ?_
  refine z_iload_n 6 dX0_found_5 rfl rfl ?_
  refine z_iconst 7 (v := nI 1) dX0_found_6 rfl rfl ?_
  refine z_icmp_lt 25 10 dX0_found_7 (by decide) rfl (fun h7 => ?_) (fun h7 => ?_)
  · (try rw [nI_ltI (by omega) (by omega)] at h7)
    exact absurd h7 (by omega)
  · (try rw [nI_ltI (by omega) (by omega)] at h7)
    refine z_iload_n 11 dX0_found_10 rfl rfl ?_
    refine z_iconst 12 (v := nI 5) dX0_found_11 rfl rfl ?_
    refine z_icmp_gt 25 15 dX0_found_12 (by decide) rfl (fun h12 => ?_) (fun h12 => ?_)
    · (try rw [nI_ltI (by omega) (by omega)] at h12)
      exact absurd h12 (by omega)
    · (try rw [nI_ltI (by omega) (by omega)] at h12)
      refine z_aload_n 16 dX0_found_15 rfl rfl ?_
      refine gX0_9 19 rfl dX0_found_16 rfl (by first | assumption | rfl) ?_
      refine z_iload_n 20 dX0_found_19 rfl rfl ?_
      refine z_dup2 21 dX0_found_20 rfl rfl rfl ?_
      refine z_ialdn 22 dX0_found_21 rfl (by first | assumption | rfl) (by omega) ?_
      refine z_iconst 23 (v := nI 1) dX0_found_22 rfl rfl ?_
      refine z_iadd 24 dX0_found_23 rfl ?_
      refine z_iastn 25 dX0_found_24 rfl (by first | assumption | rfl) (by omega) ?_
      refine z_bipush 27 (v := (-3)) dX0_found_25 rfl rfl ?_
      refine z_ri dX0_found_27 rfl ?_
      refine ⟨rfl, ?_⟩
      rw [gi_s2 _ _ (by omega)]
      rfl
set_option maxRecDepth 20000 in
theorem tX0_ask {E : zE} {d : Nat} {σ : zM} {v : Int32} : Ret E mX0_ask d [zr E 6, .int v] σ (qI fun x τ => x = nI 1 ∧ τ = si σ 6 2 v) := by
  refine Ret.of [some (zr E 6), some (.int v)] (by decide +kernel) (Nat.le_of_ble_eq_true rfl) rfl ?_
  refine z_aload_n 1 dX0_ask_0 rfl rfl ?_
  refine z_iload_n 2 dX0_ask_1 rfl rfl ?_
  refine pX0_23 5 rfl dX0_ask_2 rfl (by first | assumption | rfl) ?_
  refine z_iconst 6 (v := nI 1) dX0_ask_5 rfl rfl ?_
  refine z_ri dX0_ask_6 rfl ?_
  exact ⟨rfl, rfl⟩
set_option maxRecDepth 20000 in
theorem tX9_isRow {E : zE} {d : Nat} {σ : zM} {r : Int32} : Ret E mX9_isRow d [.int r] σ (qI fun x τ => x = bI (decide (inN r 6)) ∧ τ = σ) := by
  refine Ret.of [some (.int r)] (by decide +kernel) (Nat.le_of_ble_eq_true rfl) rfl ?_
  refine z_iload_n 1 dX9_isRow_0 rfl rfl ?_
  refine z_if_lt 14 4 dX9_isRow_1 (by decide) rfl (fun h1 => ?_) (fun h1 => ?_)
  · (try rw [nI_lt0 (by omega)] at h1)
    refine z_iconst 15 (v := nI 0) dX9_isRow_14 rfl rfl ?_
    refine z_rz dX9_isRow_15 rfl (by first | exact Or.inl rfl | exact Or.inr rfl | exact bI_01 _ | assumption) ?_
    first | exact ⟨bI_f (inN_f1 h1), rfl⟩ | exact ⟨bI_f (inN_f2 (by decide) h7), rfl⟩ | exact ⟨bI_t (inN_t (by decide) h1 h7), rfl⟩
  · (try rw [nI_lt0 (by omega)] at h1)
    refine z_iload_n 5 dX9_isRow_4 rfl rfl ?_
    refine z_bipush 7 (v := nI 6) dX9_isRow_5 rfl rfl ?_
    refine z_icmp_ge 14 10 dX9_isRow_7 (by decide) rfl (fun h7 => ?_) (fun h7 => ?_)
    · (try rw [nI_leI (by omega) (by omega)] at h7)
      refine z_iconst 15 (v := nI 0) dX9_isRow_14 rfl rfl ?_
      refine z_rz dX9_isRow_15 rfl (by first | exact Or.inl rfl | exact Or.inr rfl | exact bI_01 _ | assumption) ?_
      first | exact ⟨bI_f (inN_f1 h1), rfl⟩ | exact ⟨bI_f (inN_f2 (by decide) h7), rfl⟩ | exact ⟨bI_t (inN_t (by decide) h1 h7), rfl⟩
    · (try rw [nI_leI (by omega) (by omega)] at h7)
      refine z_iconst 11 (v := nI 1) dX9_isRow_10 rfl rfl ?_
      refine z_goto 15 dX9_isRow_11 rfl ?_
      refine z_rz dX9_isRow_15 rfl (by first | exact Or.inl rfl | exact Or.inr rfl | exact bI_01 _ | assumption) ?_
      first | exact ⟨bI_f (inN_f1 h1), rfl⟩ | exact ⟨bI_f (inN_f2 (by decide) h7), rfl⟩ | exact ⟨bI_t (inN_t (by decide) h1 h7), rfl⟩
set_option maxRecDepth 20000 in
theorem tX9_isText {E : zE} {d : Nat} {σ : zM} {r : Int32} : Ret E mX9_isText d [.int r] σ (qI fun x τ => x = bI (decide (inN r 4)) ∧ τ = σ) := by
  refine Ret.of [some (.int r)] (by decide +kernel) (Nat.le_of_ble_eq_true rfl) rfl ?_
  refine z_iload_n 1 dX9_isText_0 rfl rfl ?_
  refine z_if_lt 13 4 dX9_isText_1 (by decide) rfl (fun h1 => ?_) (fun h1 => ?_)
  · (try rw [nI_lt0 (by omega)] at h1)
    refine z_iconst 14 (v := nI 0) dX9_isText_13 rfl rfl ?_
    refine z_rz dX9_isText_14 rfl (by first | exact Or.inl rfl | exact Or.inr rfl | exact bI_01 _ | assumption) ?_
    first | exact ⟨bI_f (inN_f1 h1), rfl⟩ | exact ⟨bI_f (inN_f2 (by decide) h6), rfl⟩ | exact ⟨bI_t (inN_t (by decide) h1 h6), rfl⟩
  · (try rw [nI_lt0 (by omega)] at h1)
    refine z_iload_n 5 dX9_isText_4 rfl rfl ?_
    refine z_iconst 6 (v := nI 4) dX9_isText_5 rfl rfl ?_
    refine z_icmp_ge 13 9 dX9_isText_6 (by decide) rfl (fun h6 => ?_) (fun h6 => ?_)
    · (try rw [nI_leI (by omega) (by omega)] at h6)
      refine z_iconst 14 (v := nI 0) dX9_isText_13 rfl rfl ?_
      refine z_rz dX9_isText_14 rfl (by first | exact Or.inl rfl | exact Or.inr rfl | exact bI_01 _ | assumption) ?_
      first | exact ⟨bI_f (inN_f1 h1), rfl⟩ | exact ⟨bI_f (inN_f2 (by decide) h6), rfl⟩ | exact ⟨bI_t (inN_t (by decide) h1 h6), rfl⟩
    · (try rw [nI_leI (by omega) (by omega)] at h6)
      refine z_iconst 10 (v := nI 1) dX9_isText_9 rfl rfl ?_
      refine z_goto 14 dX9_isText_10 rfl ?_
      refine z_rz dX9_isText_14 rfl (by first | exact Or.inl rfl | exact Or.inr rfl | exact bI_01 _ | assumption) ?_
      first | exact ⟨bI_f (inN_f1 h1), rfl⟩ | exact ⟨bI_f (inN_f2 (by decide) h6), rfl⟩ | exact ⟨bI_t (inN_t (by decide) h1 h6), rfl⟩
set_option maxRecDepth 20000 in
theorem tX9_isLand {E : zE} {d : Nat} {σ : zM} {r : Int32} : Ret E mX9_isLand d [.int r] σ (qI fun x τ => x = bI (decide (inN r 2)) ∧ τ = σ) := by
  refine Ret.of [some (.int r)] (by decide +kernel) (Nat.le_of_ble_eq_true rfl) rfl ?_
  refine z_iload_n 1 dX9_isLand_0 rfl rfl ?_
  refine z_if_lt 13 4 dX9_isLand_1 (by decide) rfl (fun h1 => ?_) (fun h1 => ?_)
  · (try rw [nI_lt0 (by omega)] at h1)
    refine z_iconst 14 (v := nI 0) dX9_isLand_13 rfl rfl ?_
    refine z_rz dX9_isLand_14 rfl (by first | exact Or.inl rfl | exact Or.inr rfl | exact bI_01 _ | assumption) ?_
    first | exact ⟨bI_f (inN_f1 h1), rfl⟩ | exact ⟨bI_f (inN_f2 (by decide) h6), rfl⟩ | exact ⟨bI_t (inN_t (by decide) h1 h6), rfl⟩
  · (try rw [nI_lt0 (by omega)] at h1)
    refine z_iload_n 5 dX9_isLand_4 rfl rfl ?_
    refine z_iconst 6 (v := nI 2) dX9_isLand_5 rfl rfl ?_
    refine z_icmp_ge 13 9 dX9_isLand_6 (by decide) rfl (fun h6 => ?_) (fun h6 => ?_)
    · (try rw [nI_leI (by omega) (by omega)] at h6)
      refine z_iconst 14 (v := nI 0) dX9_isLand_13 rfl rfl ?_
      refine z_rz dX9_isLand_14 rfl (by first | exact Or.inl rfl | exact Or.inr rfl | exact bI_01 _ | assumption) ?_
      first | exact ⟨bI_f (inN_f1 h1), rfl⟩ | exact ⟨bI_f (inN_f2 (by decide) h6), rfl⟩ | exact ⟨bI_t (inN_t (by decide) h1 h6), rfl⟩
    · (try rw [nI_leI (by omega) (by omega)] at h6)
      refine z_iconst 10 (v := nI 1) dX9_isLand_9 rfl rfl ?_
      refine z_goto 14 dX9_isLand_10 rfl ?_
      refine z_rz dX9_isLand_14 rfl (by first | exact Or.inl rfl | exact Or.inr rfl | exact bI_01 _ | assumption) ?_
      first | exact ⟨bI_f (inN_f1 h1), rfl⟩ | exact ⟨bI_f (inN_f2 (by decide) h6), rfl⟩ | exact ⟨bI_t (inN_t (by decide) h1 h6), rfl⟩
set_option maxRecDepth 20000 in
theorem tX9_isEverWord {E : zE} {d : Nat} {σ : zM} {r : Int32} : Ret E mX9_isEverWord d [.int r] σ (qI fun x τ => x = bI (decide (inN r 8)) ∧ τ = σ) := by
  refine Ret.of [some (.int r)] (by decide +kernel) (Nat.le_of_ble_eq_true rfl) rfl ?_
  refine z_iload_n 1 dX9_isEverWord_0 rfl rfl ?_
  refine z_if_lt 14 4 dX9_isEverWord_1 (by decide) rfl (fun h1 => ?_) (fun h1 => ?_)
  · (try rw [nI_lt0 (by omega)] at h1)
    refine z_iconst 15 (v := nI 0) dX9_isEverWord_14 rfl rfl ?_
    refine z_rz dX9_isEverWord_15 rfl (by first | exact Or.inl rfl | exact Or.inr rfl | exact bI_01 _ | assumption) ?_
    first | exact ⟨bI_f (inN_f1 h1), rfl⟩ | exact ⟨bI_f (inN_f2 (by decide) h7), rfl⟩ | exact ⟨bI_t (inN_t (by decide) h1 h7), rfl⟩
  · (try rw [nI_lt0 (by omega)] at h1)
    refine z_iload_n 5 dX9_isEverWord_4 rfl rfl ?_
    refine z_bipush 7 (v := nI 8) dX9_isEverWord_5 rfl rfl ?_
    refine z_icmp_ge 14 10 dX9_isEverWord_7 (by decide) rfl (fun h7 => ?_) (fun h7 => ?_)
    · (try rw [nI_leI (by omega) (by omega)] at h7)
      refine z_iconst 15 (v := nI 0) dX9_isEverWord_14 rfl rfl ?_
      refine z_rz dX9_isEverWord_15 rfl (by first | exact Or.inl rfl | exact Or.inr rfl | exact bI_01 _ | assumption) ?_
      first | exact ⟨bI_f (inN_f1 h1), rfl⟩ | exact ⟨bI_f (inN_f2 (by decide) h7), rfl⟩ | exact ⟨bI_t (inN_t (by decide) h1 h7), rfl⟩
    · (try rw [nI_leI (by omega) (by omega)] at h7)
      refine z_iconst 11 (v := nI 1) dX9_isEverWord_10 rfl rfl ?_
      refine z_goto 15 dX9_isEverWord_11 rfl ?_
      refine z_rz dX9_isEverWord_15 rfl (by first | exact Or.inl rfl | exact Or.inr rfl | exact bI_01 _ | assumption) ?_
      first | exact ⟨bI_f (inN_f1 h1), rfl⟩ | exact ⟨bI_f (inN_f2 (by decide) h7), rfl⟩ | exact ⟨bI_t (inN_t (by decide) h1 h7), rfl⟩
/-! row -/
def spRow (S : sS) (r n : Int32) : Int32 × sS := if ¬ inN r 6 ∨ nI 40 < n then (-1, S) else if n < 0 then sFd S 5 else (n, setR S r.toNatClampNeg (some (n.toNatClampNeg, fun _ => nI 0)))
set_option maxRecDepth 20000 in
theorem tX9_row {E : zE} {d : Nat} {σ : zM} {S : sS} {r n : Int32} (hW : WF S) (hX : RX S σ) : Ret E mX9_row (d + 1) [zr E 0, .int r, .int n] σ (qX σ (spRow S r n)) := by
  refine Ret.of [some (zr E 0), some (.int r), some (.int n)] (by decide +kernel) (Nat.le_of_ble_eq_true rfl) rfl ?_
  refine z_iload_n 1 dX9_row_0 rfl rfl ?_
  refine z_cSI1 4 (tX9_isRow) kX9_isRow dX9_row_1 rfl lX9_83 (Nat.le_of_ble_eq_true rfl) ?_
  rintro _ _ ⟨e1, e2⟩
  replace e1 := e1.symm
  replace e2 := e2.symm
  subst e1
  subst e2
  refine z_ifb_eq 13 7 dX9_row_4 (by decide) rfl (fun h4 => ?_) (fun h4 => ?_)
  · refine z_iconst 14 (v := (-1)) dX9_row_13 rfl rfl ?_
    refine z_ri dX9_row_14 rfl ?_
    first | exact qx0 (if_pos (Or.inl h4)) hX Fr.rf | exact qx0 (if_pos (Or.inr (Int32.not_le.mp h10))) hX Fr.rf
  · obtain ⟨r, hr, rfl⟩ := inN_of h4
    refine z_iload_n 8 dX9_row_7 rfl rfl ?_
    refine z_bipush 10 (v := nI 40) dX9_row_8 rfl rfl ?_
    refine z_icmp_le 15 13 dX9_row_10 (by decide) rfl (fun h10 => ?_) (fun h10 => ?_)
    · (try rw [nI_leI (by omega) (by omega)] at h10)
      have hA : ¬ (¬ inN (nI r) 6 ∨ nI 40 < n) := fun z => z.elim (fun q => q h4) (fun q => Int32.not_lt.mpr h10 q)
      refine z_iload_n 16 dX9_row_15 rfl rfl ?_
      refine z_if_ge 28 19 dX9_row_16 (by decide) rfl (fun h16 => ?_) (fun h16 => ?_)
      · (try rw [nI_ge0 (by omega)] at h16)
        obtain ⟨n, hn, rfl⟩ := nI_of (Int32.not_lt.mpr h16)
        rw [nI_leI hn (by decide)] at h10
        have hk := kd_r hr
        have hk1 := kd_r1 hr
        refine z_aload_n 29 dX9_row_28 rfl rfl ?_
        refine gX9_11 32 rfl dX9_row_29 rfl ?_
        refine z_iload_n 33 dX9_row_32 rfl rfl ?_
        refine z_aald1 34 dX9_row_33 rfl (by omega) ?_
        refine z_iload_n 35 dX9_row_34 rfl rfl ?_
        refine z_iconst 36 (v := nI 0) dX9_row_35 rfl rfl ?_
        refine z_cVV2 39 (tX7_renew (by first | assumption | rfl) (by first | assumption | rfl) (by omega)) kX7_renew dX9_row_36 rfl lX9_91 (by first | assumption | rfl) (Nat.le_of_ble_eq_true rfl) ?_
        rintro τ1 ⟨hF1, hS1⟩
        refine z_iload_n 40 dX9_row_39 rfl rfl ?_
        refine z_ri dX9_row_40 rfl ?_
        refine qx0 (S := setR S r (some (n, fun _ => nI 0))) ?_ (hX.R hW hF1 hr hS1) (hF1.mono (by intros; omega))
        unfold spRow
        rw [if_neg hA, if_neg (nI_pos hn), nI_clamp hn, nI_clamp (by omega)]
      · (try rw [nI_ge0 (by omega)] at h16)
        refine z_aload_n 20 dX9_row_19 rfl rfl ?_
        refine gX9_39 23 rfl dX9_row_20 rfl ?_
        refine z_iconst 24 (v := nI 5) dX9_row_23 rfl rfl ?_
        refine z_cVI1 27 (tX0_found (by omega) (by omega)) kX0_found dX9_row_24 rfl lX9_87 (by first | assumption | rfl) (Nat.le_of_ble_eq_true rfl) ?_
        rintro _ _ ⟨e1, e2⟩
        replace e1 := e1.symm
        replace e2 := e2.symm
        subst e1
        subst e2
        refine z_ri dX9_row_27 rfl ?_
        exact qxf hW ((if_neg hA).trans (if_pos (Int32.not_le.mp h16))) (by decide) hX Fr.rf
    · (try rw [nI_leI (by omega) (by omega)] at h10)
      refine z_iconst 14 (v := (-1)) dX9_row_13 rfl rfl ?_
      refine z_ri dX9_row_14 rfl ?_
      first | exact qx0 (if_pos (Or.inl h4)) hX Fr.rf | exact qx0 (if_pos (Or.inr (Int32.not_le.mp h10))) hX Fr.rf
set_option maxRecDepth 20000 in
theorem tX10_row0 {E : zE} {d : Nat} {σ : zM} {r n : Nat} (hr : r < 6) (hn : n ≤ 40) : Ret E mX10_row (d + 2) [zr E 102, .int (nI r), .int (nI n)] σ (qI fun x τ => x = nI n ∧ Fr (fun x y => x = 104 ∧ y = r ∨ x = 105 ∧ 40 * r ≤ y ∧ y < 40 * r + 40) σ τ ∧ mSh τ 104 105 r 40 (some (n, fun _ => nI 0))) := by
  refine Ret.of [some (zr E 102), some (.int (nI r)), some (.int (nI n)), none] (by decide +kernel) (Nat.le_of_ble_eq_true rfl) rfl ?_
  have loop : ∀ i, i ≤ 40 → ∀ τ, Fr (fun x y => x = 104 ∧ y = r ∨ x = 105 ∧ 40 * r ≤ y ∧ y < 40 * r + 40) σ τ → gi τ 104 r = nI n → (∀ j, j < i → gi τ 105 (40 * r + j) = nI 0) → At E mX10_row (d + 2) (qI fun x τ => x = nI n ∧ Fr (fun x y => x = 104 ∧ y = r ∨ x = 105 ∧ 40 * r ≤ y ∧ y < 40 * r + 40) σ τ ∧ mSh τ 104 105 r 40 (some (n, fun _ => nI 0))) 34 [some (zr E 102), some (.int (nI r)), some (.int (nI n)), some (.int (nI i))] [] τ := by
    refine z_up (fun i hi ih τ hF hs hv => ?_)
    refine z_iload_n 35 dX10_row_34 rfl rfl ?_
    refine z_bipush 37 (v := nI 40) dX10_row_35 rfl rfl ?_
    refine z_icmp_ge 53 40 dX10_row_37 (by decide) rfl (fun h37 => ?_) (fun h37 => ?_)
    · (try rw [nI_leI (by omega) (by omega)] at h37)
      refine z_iload_n 54 dX10_row_53 rfl rfl ?_
      refine z_ri dX10_row_54 rfl ?_
      exact ⟨rfl, hF, hn, hs, fun j hj => hv j (by have h2 : j < n := hj; omega)⟩
    · (try rw [nI_leI (by omega) (by omega)] at h37)
      refine z_aload_n 41 dX10_row_40 rfl rfl ?_
      refine z_iload_n 42 dX10_row_41 rfl rfl ?_
      refine z_iload_n 43 dX10_row_42 rfl rfl ?_
      refine z_iconst 44 (v := nI 0) dX10_row_43 rfl rfl ?_
      refine z_cVV3 47 (tX10_setRow (by omega) (by omega)) kX10_setRow dX10_row_44 rfl lX10_106 (by first | assumption | rfl) (Nat.le_of_ble_eq_true rfl) ?_
      rintro _ e2
      replace e2 := e2.symm
      subst e2
      refine zs_iinc_3_4_1 50 rfl dX10_row_47 rfl rfl ?_
      rw [nI_add]
      refine z_goto 34 dX10_row_50 rfl ?_
      refine ih (i + 1) (by omega) (by omega) _ (hF.si _ (by omega)) (by rw [gi_s2 _ _ (by omega)]; exact hs) (fun j hj => ?_)
      rw [gi_si]
      by_cases hij : j = i
      · rw [if_pos ⟨rfl, by omega⟩]
      · rw [if_neg (by omega)]; exact hv j (by omega)
  refine z_iload_n 1 dX10_row_0 rfl rfl ?_
  refine z_cSI1 4 (tX10_isRow) kX10_isRow dX10_row_1 rfl lX10_95 (Nat.le_of_ble_eq_true rfl) ?_
  rintro _ _ ⟨e1, e2⟩
  replace e1 := e1.symm
  replace e2 := e2.symm
  subst e1
  subst e2
  refine z_ifb_eq 13 7 dX10_row_4 (by decide) rfl (fun h4 => ?_) (fun h4 => ?_)
  · exact absurd (inN_nI hr (by omega)) h4
  · refine z_iload_n 8 dX10_row_7 rfl rfl ?_
    refine z_bipush 10 (v := nI 40) dX10_row_8 rfl rfl ?_
    refine z_icmp_le 15 13 dX10_row_10 (by decide) rfl (fun h10 => ?_) (fun h10 => ?_)
    · (try rw [nI_leI (by omega) (by omega)] at h10)
      refine z_iload_n 16 dX10_row_15 rfl rfl ?_
      refine z_if_ge 25 19 dX10_row_16 (by decide) rfl (fun h16 => ?_) (fun h16 => ?_)
      · refine z_aload_n 26 dX10_row_25 rfl rfl ?_
        refine gX10_17 29 rfl dX10_row_26 rfl ?_
        refine z_iload_n 30 dX10_row_29 rfl rfl ?_
        refine z_iload_n 31 dX10_row_30 rfl rfl ?_
        refine z_iastn 32 dX10_row_31 rfl (by first | assumption | rfl) (by omega) ?_
        refine z_iconst 33 (v := nI 0) dX10_row_32 rfl rfl ?_
        refine zs_istore_n_3_4 34 rfl dX10_row_33 rfl rfl ?_
        exact loop 0 (Nat.zero_le _) _ (Fr.rf.si _ (Or.inl ⟨rfl, rfl⟩)) (gi_s1 _ _ _ _) (fun j hj => absurd hj (Nat.not_lt_zero j))
      · exact absurd (nI_pos' (by omega)) h16
    · (try rw [nI_leI (by omega) (by omega)] at h10)
      exact absurd h10 (by omega)
set_option maxRecDepth 20000 in
theorem tX10_row {E : zE} {d : Nat} {σ : zM} {S : sS} {r n : Int32} (hW : WF S) (hX : RM S σ) : Ret E mX10_row (d + 2) [zr E 102, .int r, .int n] σ (qM σ (spRow S r n)) := by
  by_cases hA : ¬ inN r 6 ∨ nI 40 < n
  · refine Ret.of [some (zr E 102), some (.int r), some (.int n), none] (by decide +kernel) (Nat.le_of_ble_eq_true rfl) rfl ?_
    refine z_iload_n 1 dX10_row_0 rfl rfl ?_
    refine z_cSI1 4 (tX10_isRow) kX10_isRow dX10_row_1 rfl lX10_95 (Nat.le_of_ble_eq_true rfl) ?_
    rintro _ _ ⟨e1, e2⟩
    replace e1 := e1.symm
    replace e2 := e2.symm
    subst e1
    subst e2
    refine z_ifb_eq 13 7 dX10_row_4 (by decide) rfl (fun h4 => ?_) (fun h4 => ?_)
    · refine z_iconst 14 (v := (-1)) dX10_row_13 rfl rfl ?_
      refine z_ri dX10_row_14 rfl ?_
      exact qm0 (if_pos hA) hX Fr.rf
    · refine z_iload_n 8 dX10_row_7 rfl rfl ?_
      refine z_bipush 10 (v := nI 40) dX10_row_8 rfl rfl ?_
      refine z_icmp_le 15 13 dX10_row_10 (by decide) rfl (fun h10 => ?_) (fun h10 => ?_)
      · (try rw [nI_leI (by omega) (by omega)] at h10)
        exact absurd hA (fun z => z.elim (fun q => q h4) (fun q => Int32.not_lt.mpr h10 q))
      · (try rw [nI_leI (by omega) (by omega)] at h10)
        refine z_iconst 14 (v := (-1)) dX10_row_13 rfl rfl ?_
        refine z_ri dX10_row_14 rfl ?_
        exact qm0 (if_pos hA) hX Fr.rf
  · have hA1 : inN r 6 := Classical.byContradiction fun q => hA (Or.inl q)
    have hA2 : n ≤ nI 40 := Int32.not_lt.mp fun q => hA (Or.inr q)
    by_cases hB : n < 0
    · refine Ret.of [some (zr E 102), some (.int r), some (.int n), none] (by decide +kernel) (Nat.le_of_ble_eq_true rfl) rfl ?_
      refine z_iload_n 1 dX10_row_0 rfl rfl ?_
      refine z_cSI1 4 (tX10_isRow) kX10_isRow dX10_row_1 rfl lX10_95 (Nat.le_of_ble_eq_true rfl) ?_
      rintro _ _ ⟨e1, e2⟩
      replace e1 := e1.symm
      replace e2 := e2.symm
      subst e1
      subst e2
      refine z_ifb_eq 13 7 dX10_row_4 (by decide) rfl (fun h4 => ?_) (fun h4 => ?_)
      · exact absurd hA1 h4
      · refine z_iload_n 8 dX10_row_7 rfl rfl ?_
        refine z_bipush 10 (v := nI 40) dX10_row_8 rfl rfl ?_
        refine z_icmp_le 15 13 dX10_row_10 (by decide) rfl (fun h10 => ?_) (fun h10 => ?_)
        · (try rw [nI_leI (by omega) (by omega)] at h10)
          refine z_iload_n 16 dX10_row_15 rfl rfl ?_
          refine z_if_ge 25 19 dX10_row_16 (by decide) rfl (fun h16 => ?_) (fun h16 => ?_)
          · (try rw [nI_ge0 (by omega)] at h16)
            exact absurd hB (Int32.not_lt.mpr h16)
          · (try rw [nI_ge0 (by omega)] at h16)
            refine z_aload_n 20 dX10_row_19 rfl rfl ?_
            refine z_iconst 21 (v := nI 5) dX10_row_20 rfl rfl ?_
            refine z_cVI1 24 (tX10_meets (by omega)) kX10_meets dX10_row_21 rfl lX10_99 (by first | assumption | rfl) (Nat.le_of_ble_eq_true rfl) ?_
            rintro _ _ ⟨e1, e2⟩
            replace e1 := e1.symm
            replace e2 := e2.symm
            subst e1
            subst e2
            refine z_ri dX10_row_24 rfl ?_
            exact qmf hW ((if_neg hA).trans (if_pos hB)) (by decide) hX Fr.rf
        · (try rw [nI_leI (by omega) (by omega)] at h10)
          exact absurd hA2 h10
    · obtain ⟨r, hr, rfl⟩ := inN_of hA1
      obtain ⟨n, hn, rfl⟩ := nI_of hB
      rw [nI_leI hn (by decide)] at hA2
      refine (tX10_row0 hr hA2).imp (fun v τ h => ?_)
      obtain ⟨x, h1, h2, h3, h4⟩ := h
      refine ⟨x, h1, ?_⟩
      subst h2
      refine qm0 (S := setR S r (some (n, fun _ => nI 0))) ?_ (hX.R hW h3 hr h4) (h3.mono (by intros; omega))
      unfold spRow
      rw [if_neg hA, if_neg hB, nI_clamp hn, nI_clamp (by omega)]
