/-! guesser -/
def fprod (f : Nat → Nat) : Nat → Nat
  | 0 => 1
  | n + 1 => fprod f n * f n
/-- the share that the leaf's word has, if p guessed as one of kind k -/
def gL (S : sS) (p k e : Nat) : Nat → Nat := gS (lk S p k) (sUs S (sPl S p).2.1) (sLf S e).2.2.2.1 (sLf S e).2.2.2.2.1 (DB S (sLf S e).2.2.2.2.2)
def shL (S : sS) (p k e : Nat) : Nat := hSh (gL S p k e) (sBw S 0) (fv S p) (sLf S e).2.2.1
def lik (S : sS) (p k n : Nat) : Nat := fprod (fun e => if lOf S true p e then shL S p k e else 1) n
theorem shL_le {S : sS} (hW : WF S) {p e : Nat} (hp : p < sPc S) (he : e < sLc S) (k : Nat) : shL S p k e ≤ 24 := by
  have h1 := hSh_sum (s := gL S p k e) (n := sBw S 0) (fav := fv S p) (plOK hW hp).2.2.2.2
  have h2 := fsum_one (f := hSh (gL S p k e) (sBw S 0) (fv S p)) (sBw S 0) (sLf S e).2.2.1 (lfWord hW he)
  unfold shL
  omega
theorem lik_le {S : sS} (hW : WF S) {p : Nat} (hp : p < sPc S) (k : Nat) : ∀ n, n ≤ sLc S → lik S p k n ≤ 24 ^ lvs S true p n := by
  intro n
  induction n with
  | zero => intro _; exact Nat.le_refl 1
  | succ n ih =>
    intro hn
    have h1 := ih (by omega)
    show lik S p k n * (if lOf S true p n then shL S p k n else 1) ≤ 24 ^ (lvs S true p n + if lOf S true p n then 1 else 0)
    by_cases h : lOf S true p n
    · rw [if_pos h, if_pos h, Nat.pow_succ]
      exact Nat.mul_le_mul h1 (shL_le hW hp (by omega) k)
    · rw [if_neg h, if_neg h, Nat.mul_one, Nat.add_zero]
      exact h1
theorem tX9_drawerO {E : zE} {d : Nat} {σ : zM} {S : sS} {o : Option Nat} (hW : WF S) (hX : RX S σ) (ho : ∀ q, o = some q → q < sPc S) : Ret E mX9_drawer (d + 1) [zr E 0, .int (byI o)] σ (qA fun x τ => ByV E σ x (sBw S 0) (DB S o) ∧ τ = σ) := by
  cases o with
  | none =>
    refine (tX9_drawerN hW hX (v := -9) (fun z => z.1 (by decide))).imp (fun v τ h => ?_)
    obtain ⟨x, h1, e, h3⟩ := h
    exact ⟨x, h1, by rw [e]; exact ByV.none, h3⟩
  | some q =>
    refine (tX9_drawerP hW hX (ho q rfl)).imp (fun v τ h => ?_)
    obtain ⟨x, h1, e, h3⟩ := h
    exact ⟨x, h1, by rw [e]; exact hX.by hW (ho q rfl), h3⟩
