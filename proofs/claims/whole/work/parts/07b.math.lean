abbrev inN (r : Int32) (k : Nat) : Prop := ¬ r < 0 ∧ r.toNatClampNeg < k
theorem inN_of {r : Int32} {k : Nat} (h : inN r k) : ∃ j, j < k ∧ r = nI j := by
  obtain ⟨j, hj, rfl⟩ := nI_of h.1
  have h2 := h.2
  rw [nI_clamp hj] at h2
  exact ⟨j, h2, rfl⟩
theorem inN_nI {j k : Nat} (hj : j < k) (hk : j < 2 ^ 31) : inN (nI j) k := ⟨nI_pos hk, by rw [nI_clamp hk]; exact hj⟩
theorem inN_nI' {j k : Nat} (hk : j < 2 ^ 31) : inN (nI j) k ↔ j < k := by
  refine ⟨fun h => ?_, fun h => inN_nI h hk⟩
  have := h.2
  rwa [nI_clamp hk] at this
theorem inN_t {r : Int32} {k : Nat} (hk : k < 2 ^ 31) (h1 : ¬ r < 0) (h2 : ¬ nI k ≤ r) : inN r k := by
  obtain ⟨j, hj, rfl⟩ := nI_of h1
  rw [nI_leI hk hj] at h2
  exact inN_nI (by omega) hj
theorem inN_f1 {r : Int32} {k : Nat} (h1 : r < 0) : ¬ inN r k := fun h => h.1 h1
theorem inN_f2 {r : Int32} {k : Nat} (hk : k < 2 ^ 31) (h2 : nI k ≤ r) : ¬ inN r k := by
  intro h
  obtain ⟨j, hj, rfl⟩ := inN_of h
  rw [nI_leI hk (by omega)] at h2
  omega
theorem inN_in {r : Int32} {k : Nat} (hk : k + 1 < 2 ^ 31) : (nI 0 ≤ r ∧ r ≤ nI k) ↔ inN r (k + 1) := by
  constructor
  · rintro ⟨h1, h2⟩
    rw [nI_0] at h1
    obtain ⟨j, hj, rfl⟩ := nI_of (Int32.not_lt.mpr h1)
    rw [nI_leI hj (by omega)] at h2
    exact inN_nI (by omega) hj
  · intro h
    obtain ⟨j, hj, rfl⟩ := inN_of h
    exact ⟨nI_le (Nat.zero_le j) (by omega), nI_le (by omega) (by omega)⟩
theorem bI_c {p q : Prop} {hp : Decidable p} {hq : Decidable q} (h : p ↔ q) : bI (decide p) = bI (decide q) := congrArg bI (decide_eq_decide.mpr h)
/-- all but P stays -/
def Fr (P : Nat → Nat → Prop) (σ τ : zM) : Prop := ∀ a j, ¬ P a j → gi τ a j = gi σ a j ∧ gl τ a j = gl σ a j ∧ gr τ a j = gr σ a j
theorem Fr.rf {P : Nat → Nat → Prop} {σ : zM} : Fr P σ σ := fun _ _ _ => ⟨rfl, rfl, rfl⟩
theorem Fr.tr {P Q R : Nat → Nat → Prop} {σ τ ρ : zM} (h1 : Fr P σ τ) (h2 : Fr Q τ ρ) (hP : ∀ a j, P a j → R a j) (hQ : ∀ a j, Q a j → R a j) : Fr R σ ρ := fun a j h => by
  obtain ⟨a1, a2, a3⟩ := h1 a j (fun q => h (hP a j q))
  obtain ⟨b1, b2, b3⟩ := h2 a j (fun q => h (hQ a j q))
  exact ⟨b1.trans a1, b2.trans a2, b3.trans a3⟩
theorem Fr.mono {P R : Nat → Nat → Prop} {σ τ : zM} (h1 : Fr P σ τ) (hP : ∀ a j, P a j → R a j) : Fr R σ τ := fun a j h => h1 a j (fun q => h (hP a j q))
theorem Fr.si {P : Nat → Nat → Prop} {σ τ : zM} (h : Fr P σ τ) {a j : Nat} (v : Int32) (hp : P a j) : Fr P σ (si τ a j v) := fun x y hn => by
  obtain ⟨b1, b2, b3⟩ := h x y hn
  refine ⟨?_, b2, b3⟩
  rw [gi_si, if_neg (fun q => hn (by rw [q.1, q.2]; exact hp))]
  exact b1
theorem Fr.sl {P : Nat → Nat → Prop} {σ τ : zM} (h : Fr P σ τ) {a j : Nat} (v : Int64) (hp : P a j) : Fr P σ (sl τ a j v) := fun x y hn => by
  obtain ⟨b1, b2, b3⟩ := h x y hn
  refine ⟨b1, ?_, b3⟩
  rw [gl_sl, if_neg (fun q => hn (by rw [q.1, q.2]; exact hp))]
  exact b2
theorem Fr.sr {P : Nat → Nat → Prop} {σ τ : zM} (h : Fr P σ τ) {a j : Nat} (v : Nat) (hp : P a j) : Fr P σ (sr τ a j v) := fun x y hn => by
  obtain ⟨b1, b2, b3⟩ := h x y hn
  refine ⟨b1, b2, ?_⟩
  rw [gr_sr, if_neg (fun q => hn (by rw [q.1, q.2]; exact hp))]
  exact b3
theorem Fr.sf {P : Nat → Nat → Prop} {σ τ : zM} (h : Fr P σ τ) {a : Nat} (f : Nat → Int32) (hp : ∀ j, P a j) : Fr P σ (sf τ a f) := fun x y hn => by
  obtain ⟨b1, b2, b3⟩ := h x y hn
  refine ⟨?_, b2, b3⟩
  rw [gi_sf, if_neg (fun q => hn (by rw [q]; exact hp y))]
  exact b1
theorem Fr.gi {P : Nat → Nat → Prop} {σ τ : zM} (h : Fr P σ τ) {a j : Nat} (hn : ¬ P a j) : gi τ a j = gi σ a j := (h a j hn).1
theorem Fr.gl {P : Nat → Nat → Prop} {σ τ : zM} (h : Fr P σ τ) {a j : Nat} (hn : ¬ P a j) : gl τ a j = gl σ a j := (h a j hn).2.1
theorem Fr.gr {P : Nat → Nat → Prop} {σ τ : zM} (h : Fr P σ τ) {a j : Nat} (hn : ¬ P a j) : gr τ a j = gr σ a j := (h a j hn).2.2
theorem gi_s1 (σ : zM) (a j : Nat) (v : Int32) : gi (si σ a j v) a j = v := by rw [gi_si, if_pos ⟨rfl, rfl⟩]
theorem gi_s2 (σ : zM) {a j x y : Nat} (v : Int32) (h : ¬ (x = a ∧ y = j)) : gi (si σ a j v) x y = gi σ x y := by rw [gi_si, if_neg h]
theorem gl_s1 (σ : zM) (a j : Nat) (v : Int64) : gl (sl σ a j v) a j = v := by rw [gl_sl, if_pos ⟨rfl, rfl⟩]
theorem gl_s2 (σ : zM) {a j x y : Nat} (v : Int64) (h : ¬ (x = a ∧ y = j)) : gl (sl σ a j v) x y = gl σ x y := by rw [gl_sl, if_neg h]
