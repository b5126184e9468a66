/-! what both objects hold, as one value S: rows, texts, boxes (words, how usual), players (kind, land, parts, favourite), leaves (guess, who, word, how many parts, parts, by), answers (finding, findings, asked, upper, lower) -/
abbrev sRow : Type := Option (Nat × (Nat → Int32))
abbrev sPly : Type := Nat × Nat × Nat × Nat
abbrev sLeaf : Type := Bool × Nat × Nat × Nat × (Nat → Nat) × Option Nat
abbrev sAn : Type := Int32 × (Nat → Int32) × Int32 × Int64 × Int64
abbrev sS : Type := (Nat → sRow) × (Nat → sRow) × ((Nat → Nat) × (Nat → Nat → Nat → Nat)) × (Nat × (Nat → sPly)) × (Nat × (Nat → sLeaf)) × sAn
def sR (S : sS) : Nat → sRow := S.1
def sT (S : sS) : Nat → sRow := S.2.1
def sBw (S : sS) : Nat → Nat := S.2.2.1.1
def sUs (S : sS) : Nat → Nat → Nat → Nat := S.2.2.1.2
def sPc (S : sS) : Nat := S.2.2.2.1.1
def sPl (S : sS) : Nat → sPly := S.2.2.2.1.2
def sLc (S : sS) : Nat := S.2.2.2.2.1.1
def sLf (S : sS) : Nat → sLeaf := S.2.2.2.2.1.2
def sA (S : sS) : sAn := S.2.2.2.2.2
def setR (S : sS) (r : Nat) (o : sRow) : sS := (zu S.1 r o, S.2)
def setT (S : sS) (t : Nat) (o : sRow) : sS := (S.1, zu S.2.1 t o, S.2.2)
def setB (S : sS) (l w : Nat) (u : Nat → Nat → Nat) : sS := (S.1, S.2.1, (zu S.2.2.1.1 l w, zu S.2.2.1.2 l u), S.2.2.2)
def setP (S : sS) (n : Nat) (f : Nat → sPly) : sS := (S.1, S.2.1, S.2.2.1, (n, f), S.2.2.2.2)
def setL (S : sS) (n : Nat) (f : Nat → sLeaf) : sS := (S.1, S.2.1, S.2.2.1, S.2.2.2.1, (n, f), S.2.2.2.2.2)
def setA (S : sS) (A : sAn) : sS := (S.1, S.2.1, S.2.2.1, S.2.2.2.1, S.2.2.2.2.1, A)
/-- found -/
def aFd (A : sAn) (k : Nat) : sAn := (nI k, zu A.2.1 k (A.2.1 k + nI 1), A.2.2)
def aAsk (A : sAn) (v : Int32) : sAn := (A.1, A.2.1, v, A.2.2.2)
def aTell (A : sAn) (u l : Int64) : sAn := (A.1, A.2.1, A.2.2.1, u, l)
def sFd (S : sS) (k : Nat) : Int32 × sS := (-3, setA S (aFd (sA S) k))
def sAsk (S : sS) (v x : Int32) : Int32 × sS := (x, setA S (aAsk (sA S) v))
/-- a row in cells -/
def Sh (σ : zM) (a cap : Nat) (o : sRow) : Prop := match o with
  | none => gi σ a 1 = -1
  | some q => q.1 ≤ cap ∧ gi σ a 1 = nI q.1 ∧ ∀ i, i < q.1 → gi σ (a + 1) i = q.2 i
def mSh (σ : zM) (c b r cap : Nat) (o : sRow) : Prop := match o with
  | none => gi σ c r = -9
  | some q => q.1 ≤ cap ∧ gi σ c r = nI q.1 ∧ ∀ i, i < q.1 → gi σ b (cap * r + i) = q.2 i
def XR (R : Nat → sRow) (σ : zM) : Prop := ∀ r, r < 6 → Sh σ (24 + 2 * r) 40 (R r)
def XT (R : Nat → sRow) (σ : zM) : Prop := ∀ r, r < 4 → Sh σ (36 + 2 * r) 120 (R r)
def MR (R : Nat → sRow) (σ : zM) : Prop := ∀ r, r < 6 → mSh σ 104 105 r 40 (R r)
def MT (R : Nat → sRow) (σ : zM) : Prop := ∀ r, r < 4 → mSh σ 107 108 r 120 (R r)
def XB (B : (Nat → Nat) × (Nat → Nat → Nat → Nat)) (σ : zM) : Prop := ∀ l, l < 2 → gi σ (44 + 2 * l) 1 = nI (B.1 l) ∧ ∀ w, w < B.1 l → ∀ p, p < 10 → gi σ (44 + 2 * l + 1) (w * 10 + p) = nI (B.2 l w p)
def MB (B : (Nat → Nat) × (Nat → Nat → Nat → Nat)) (σ : zM) : Prop := ∀ l, l < 2 → gi σ 109 l = nI (B.1 l) ∧ ∀ w, w < B.1 l → ∀ p, p < 10 → gi σ 110 (80 * l + 10 * w + p) = nI (B.2 l w p)
/-- what one draws of a word: by how usual, so many -/
def dA (u : Nat → Nat) : Nat → List Nat
  | 0 => []
  | w + 1 => dA u w ++ (List.range 10).filter (fun p => u p == 9 - w)
def dFull (u : Nat → Nat) : List Nat := dA u 9
def dMost (q : sPly) : Nat := if (q.1 = 1 ∨ q.1 = 4) ∧ 1 < q.2.2.1 then q.2.2.1 - 1 else q.2.2.1
def dList (u : Nat → Nat) (n : Nat) : List Nat := (dFull u).take n
/-- the set of the first n of g, by bits -/
def pset (g : Nat → Nat) : Nat → Nat
  | 0 => 0
  | n + 1 => pset g n ||| 2 ^ g n
def bset (l : List Nat) : Nat := pset (fun i => l.getD i 0) l.length
/-- how usual in a land, 0 beyond its words -/
def us0 (B : (Nat → Nat) × (Nat → Nat → Nat → Nat)) (l w : Nat) : Nat → Nat := fun p => if w < B.1 l then B.2 l w p else 0
def XP (B : (Nat → Nat) × (Nat → Nat → Nat → Nat)) (P : Nat × (Nat → sPly)) (σ : zM) : Prop := gi σ 0 11 = nI P.1 ∧ ∀ p, p < P.1 → gi σ (48 + 2 * p) 1 = nI (P.2 p).1 ∧ gi σ (48 + 2 * p) 2 = nI (P.2 p).2.1 ∧ gi σ (48 + 2 * p) 3 = nI (P.2 p).2.2.1 ∧ gi σ (48 + 2 * p) 4 = nI (P.2 p).2.2.2 ∧ gr σ (48 + 2 * p) 5 = 44 + 2 * (P.2 p).2.1 ∧ ∀ w, w < 8 → gi σ (48 + 2 * p + 1) w = nI (bset (dList (us0 B (P.2 p).2.1 w) (dMost (P.2 p))))
def MP (P : Nat × (Nat → sPly)) (σ : zM) : Prop := gi σ 102 13 = nI P.1 ∧ ∀ p, p < P.1 → gi σ 111 (4 * p + 0) = nI (P.2 p).1 ∧ gi σ 111 (4 * p + 1) = nI (P.2 p).2.1 ∧ gi σ 111 (4 * p + 2) = nI (P.2 p).2.2.1 ∧ gi σ 111 (4 * p + 3) = nI (P.2 p).2.2.2
def byI (o : Option Nat) : Int32 := match o with
  | none => -9
  | some q => nI q
def XL (L : Nat × (Nat → sLeaf)) (σ : zM) : Prop := gi σ 0 12 = nI L.1 ∧ ∀ e, e < L.1 → gi σ (64 + 3 * e) 1 = bI (L.2 e).1 ∧ gi σ (64 + 3 * e) 2 = nI (L.2 e).2.1 ∧ gi σ (64 + 3 * e) 3 = nI (L.2 e).2.2.1 ∧ gi σ (64 + 3 * e) 4 = nI (pset (L.2 e).2.2.2.2.1 (L.2 e).2.2.2.1) ∧ gi σ (64 + 3 * e) 5 = byI (L.2 e).2.2.2.2.2 ∧ gi σ (64 + 3 * e + 1) 1 = nI (L.2 e).2.2.2.1 ∧ ∀ i, i < (L.2 e).2.2.2.1 → gi σ (64 + 3 * e + 1 + 1) i = nI ((L.2 e).2.2.2.2.1 i)
def ML (L : Nat × (Nat → sLeaf)) (σ : zM) : Prop := gi σ 102 35 = nI L.1 ∧ ∀ e, e < L.1 → gi σ 124 (12 * e + 0) = bI (L.2 e).1 ∧ gi σ 124 (12 * e + 1) = nI (L.2 e).2.1 ∧ gi σ 124 (12 * e + 2) = nI (L.2 e).2.2.1 ∧ gi σ 124 (12 * e + 3) = nI (pset (L.2 e).2.2.2.2.1 (L.2 e).2.2.2.1) ∧ gi σ 124 (12 * e + 4) = byI (L.2 e).2.2.2.2.2 ∧ gi σ 124 (12 * e + 5) = nI (L.2 e).2.2.2.1 ∧ ∀ i, i < (L.2 e).2.2.2.1 → gi σ 124 (12 * e + (6 + i)) = nI ((L.2 e).2.2.2.2.1 i)
def XA (A : sAn) (σ : zM) : Prop := gi σ 6 1 = A.1 ∧ (∀ f, f < 6 → gi σ 7 f = A.2.1 f) ∧ gi σ 6 2 = A.2.2.1 ∧ gl σ 6 3 = A.2.2.2.1 ∧ gl σ 6 4 = A.2.2.2.2
def MA (A : sAn) (σ : zM) : Prop := gi σ 102 0 = A.1 ∧ (∀ f, f < 6 → gi σ 103 f = A.2.1 f) ∧ gi σ 102 2 = A.2.2.1 ∧ gl σ 102 3 = A.2.2.2.1 ∧ gl σ 102 4 = A.2.2.2.2
def RX (S : sS) (σ : zM) : Prop := XR S.1 σ ∧ XT S.2.1 σ ∧ XB S.2.2.1 σ ∧ XP S.2.2.1 S.2.2.2.1 σ ∧ XL S.2.2.2.2.1 σ ∧ XA S.2.2.2.2.2 σ
def RM (S : sS) (σ : zM) : Prop := MR S.1 σ ∧ MT S.2.1 σ ∧ MB S.2.2.1 σ ∧ MP S.2.2.2.1 σ ∧ ML S.2.2.2.2.1 σ ∧ MA S.2.2.2.2.2 σ
def WFrow (cap : Nat) (o : sRow) : Prop := match o with
  | none => True
  | some q => q.1 ≤ cap
def WF (S : sS) : Prop := (∀ l, l < 2 → sBw S l ≤ 8 ∧ ∀ w, w < sBw S l → (∀ p, p < 10 → sUs S l w p ≤ 9) ∧ ∃ p, p < 10 ∧ 0 < sUs S l w p) ∧
  (sPc S ≤ 8 ∧ ∀ p, p < sPc S → (sPl S p).1 < 6 ∧ (sPl S p).2.1 < 2 ∧ 1 ≤ (sPl S p).2.2.1 ∧ (sPl S p).2.2.1 ≤ 6 ∧ (sPl S p).2.2.2 < sBw S 0 ∧ sBw S (sPl S p).2.1 = sBw S 0) ∧
  (sLc S ≤ 12 ∧ ∀ e, e < sLc S → (sLf S e).2.1 < sPc S ∧ (sLf S e).2.2.1 < sBw S 0 ∧ 1 ≤ (sLf S e).2.2.2.1 ∧ (sLf S e).2.2.2.1 ≤ 6 ∧ (∀ i, i < (sLf S e).2.2.2.1 → (sLf S e).2.2.2.2.1 i < 10 ∧ ∀ j, j < i → (sLf S e).2.2.2.2.1 i ≠ (sLf S e).2.2.2.2.1 j) ∧ ∀ q, (sLf S e).2.2.2.2.2 = some q → q < sPc S)
/-! the frames of the parts -/
theorem Sh.fr {P : Nat → Nat → Prop} {σ τ : zM} {a cap : Nat} {o : sRow} (h : Sh σ a cap o) (hF : Fr P σ τ) (h1 : ¬ P a 1) (h2 : ∀ i, ¬ P (a + 1) i) : Sh τ a cap o := by
  cases o with
  | none => exact (hF.gi h1).trans h
  | some q => exact ⟨h.1, (hF.gi h1).trans h.2.1, fun i hi => (hF.gi (h2 i)).trans (h.2.2 i hi)⟩
theorem mSh.fr {P : Nat → Nat → Prop} {σ τ : zM} {c b r cap : Nat} {o : sRow} (h : mSh σ c b r cap o) (hF : Fr P σ τ) (h1 : ¬ P c r) (h2 : ∀ i, i < cap → ¬ P b (cap * r + i)) : mSh τ c b r cap o := by
  cases o with
  | none => exact (hF.gi h1).trans h
  | some q => exact ⟨h.1, (hF.gi h1).trans h.2.1, fun i hi => (hF.gi (h2 i (Nat.lt_of_lt_of_le hi h.1))).trans (h.2.2 i hi)⟩
theorem XR.fr {P : Nat → Nat → Prop} {σ τ : zM} {R : Nat → sRow} (h : XR R σ) (hF : Fr P σ τ) (hP : ∀ a j, P a j → ¬ (24 ≤ a ∧ a < 36)) : XR R τ := fun r hr => (h r hr).fr hF (fun q => hP _ _ q (by omega)) (fun i q => hP _ _ q (by omega))
theorem XT.fr {P : Nat → Nat → Prop} {σ τ : zM} {R : Nat → sRow} (h : XT R σ) (hF : Fr P σ τ) (hP : ∀ a j, P a j → ¬ (36 ≤ a ∧ a < 44)) : XT R τ := fun r hr => (h r hr).fr hF (fun q => hP _ _ q (by omega)) (fun i q => hP _ _ q (by omega))
theorem XB.fr {P : Nat → Nat → Prop} {σ τ : zM} {B : (Nat → Nat) × (Nat → Nat → Nat → Nat)} (h : XB B σ) (hF : Fr P σ τ) (hP : ∀ a j, P a j → ¬ (44 ≤ a ∧ a < 48)) : XB B τ := fun l hl => ⟨(hF.gi (fun q => hP _ _ q (by omega))).trans (h l hl).1, fun w hw p hp => (hF.gi (fun q => hP _ _ q (by omega))).trans ((h l hl).2 w hw p hp)⟩
theorem XP.fr {P : Nat → Nat → Prop} {σ τ : zM} {B : (Nat → Nat) × (Nat → Nat → Nat → Nat)} {L : Nat × (Nat → sPly)} (h : XP B L σ) (h8 : L.1 ≤ 8) (hF : Fr P σ τ) (hP : ∀ a j, P a j → ¬ (a = 0 ∧ j = 11) ∧ ¬ (48 ≤ a ∧ a < 64)) : XP B L τ := ⟨(hF.gi (fun q => (hP _ _ q).1 ⟨rfl, rfl⟩)).trans h.1, fun p hp => by
  obtain ⟨a1, a2, a3, a4, a5, a6⟩ := h.2 p hp
  exact ⟨(hF.gi (fun q => (hP _ _ q).2 (by omega))).trans a1, (hF.gi (fun q => (hP _ _ q).2 (by omega))).trans a2, (hF.gi (fun q => (hP _ _ q).2 (by omega))).trans a3, (hF.gi (fun q => (hP _ _ q).2 (by omega))).trans a4, (hF.gr (fun q => (hP _ _ q).2 (by omega))).trans a5, fun w hw => (hF.gi (fun q => (hP _ _ q).2 (by omega))).trans (a6 w hw)⟩⟩
theorem XL.fr {P : Nat → Nat → Prop} {σ τ : zM} {L : Nat × (Nat → sLeaf)} (h : XL L σ) (h8 : L.1 ≤ 12) (hF : Fr P σ τ) (hP : ∀ a j, P a j → ¬ (a = 0 ∧ j = 12) ∧ ¬ (64 ≤ a ∧ a < 100)) : XL L τ := ⟨(hF.gi (fun q => (hP _ _ q).1 ⟨rfl, rfl⟩)).trans h.1, fun p hp => by
  obtain ⟨a1, a2, a3, a4, a5, a6, a7⟩ := h.2 p hp
  exact ⟨(hF.gi (fun q => (hP _ _ q).2 (by omega))).trans a1, (hF.gi (fun q => (hP _ _ q).2 (by omega))).trans a2, (hF.gi (fun q => (hP _ _ q).2 (by omega))).trans a3, (hF.gi (fun q => (hP _ _ q).2 (by omega))).trans a4, (hF.gi (fun q => (hP _ _ q).2 (by omega))).trans a5, (hF.gi (fun q => (hP _ _ q).2 (by omega))).trans a6, fun w hw => (hF.gi (fun q => (hP _ _ q).2 (by omega))).trans (a7 w hw)⟩⟩
theorem XA.fr {P : Nat → Nat → Prop} {σ τ : zM} {A : sAn} (h : XA A σ) (hF : Fr P σ τ) (hP : ∀ a j, P a j → ¬ (a = 6 ∨ a = 7)) : XA A τ := ⟨(hF.gi (fun q => hP _ _ q (by omega))).trans h.1, fun f hf => (hF.gi (fun q => hP _ _ q (by omega))).trans (h.2.1 f hf), (hF.gi (fun q => hP _ _ q (by omega))).trans h.2.2.1, (hF.gl (fun q => hP _ _ q (by omega))).trans h.2.2.2.1, (hF.gl (fun q => hP _ _ q (by omega))).trans h.2.2.2.2⟩
theorem MR.fr {P : Nat → Nat → Prop} {σ τ : zM} {R : Nat → sRow} (h : MR R σ) (hF : Fr P σ τ) (hP : ∀ a j, P a j → ¬ (a = 104 ∨ a = 105)) : MR R τ := fun r hr => (h r hr).fr hF (fun q => hP _ _ q (by omega)) (fun i _ q => hP _ _ q (by omega))
theorem MT.fr {P : Nat → Nat → Prop} {σ τ : zM} {R : Nat → sRow} (h : MT R σ) (hF : Fr P σ τ) (hP : ∀ a j, P a j → ¬ (a = 107 ∨ a = 108)) : MT R τ := fun r hr => (h r hr).fr hF (fun q => hP _ _ q (by omega)) (fun i _ q => hP _ _ q (by omega))
theorem MB.fr {P : Nat → Nat → Prop} {σ τ : zM} {B : (Nat → Nat) × (Nat → Nat → Nat → Nat)} (h : MB B σ) (h8 : ∀ l, l < 2 → B.1 l ≤ 8) (hF : Fr P σ τ) (hP : ∀ a j, P a j → ¬ (a = 109 ∧ j < 2 ∨ a = 110 ∧ j < 160)) : MB B τ := fun l hl => ⟨(hF.gi (fun q => hP _ _ q (by omega))).trans (h l hl).1, fun w hw p hp => (hF.gi (fun q => hP _ _ q (by have := h8 l hl; omega))).trans ((h l hl).2 w hw p hp)⟩
theorem MP.fr {P : Nat → Nat → Prop} {σ τ : zM} {L : Nat × (Nat → sPly)} (h : MP L σ) (h8 : L.1 ≤ 8) (hF : Fr P σ τ) (hP : ∀ a j, P a j → ¬ (a = 102 ∧ j = 13 ∨ a = 111 ∧ j < 32)) : MP L τ := ⟨(hF.gi (fun q => hP _ _ q (by omega))).trans h.1, fun p hp => by
  obtain ⟨a1, a2, a3, a4⟩ := h.2 p hp
  exact ⟨(hF.gi (fun q => hP _ _ q (by omega))).trans a1, (hF.gi (fun q => hP _ _ q (by omega))).trans a2, (hF.gi (fun q => hP _ _ q (by omega))).trans a3, (hF.gi (fun q => hP _ _ q (by omega))).trans a4⟩⟩
theorem ML.fr {P : Nat → Nat → Prop} {σ τ : zM} {L : Nat × (Nat → sLeaf)} (h : ML L σ) (hF : Fr P σ τ) (hP : ∀ a j, P a j → ¬ (a = 102 ∧ j = 35 ∨ a = 124)) : ML L τ := ⟨(hF.gi (fun q => hP _ _ q (by omega))).trans h.1, fun p hp => by
  obtain ⟨a1, a2, a3, a4, a5, a6, a7⟩ := h.2 p hp
  exact ⟨(hF.gi (fun q => hP _ _ q (by omega))).trans a1, (hF.gi (fun q => hP _ _ q (by omega))).trans a2, (hF.gi (fun q => hP _ _ q (by omega))).trans a3, (hF.gi (fun q => hP _ _ q (by omega))).trans a4, (hF.gi (fun q => hP _ _ q (by omega))).trans a5, (hF.gi (fun q => hP _ _ q (by omega))).trans a6, fun w hw => (hF.gi (fun q => hP _ _ q (by omega))).trans (a7 w hw)⟩⟩
theorem MA.fr {P : Nat → Nat → Prop} {σ τ : zM} {A : sAn} (h : MA A σ) (hF : Fr P σ τ) (hP : ∀ a j, P a j → ¬ (a = 102 ∧ (j = 0 ∨ j = 2 ∨ j = 3 ∨ j = 4) ∨ a = 103)) : MA A τ := ⟨(hF.gi (fun q => hP _ _ q (by omega))).trans h.1, fun f hf => (hF.gi (fun q => hP _ _ q (by omega))).trans (h.2.1 f hf), (hF.gi (fun q => hP _ _ q (by omega))).trans h.2.2.1, (hF.gl (fun q => hP _ _ q (by omega))).trans h.2.2.2.1, (hF.gl (fun q => hP _ _ q (by omega))).trans h.2.2.2.2⟩
/-- the other side's doings -/
theorem RX.fr {S : sS} {σ τ : zM} (hW : WF S) (h : RX S σ) (hF : Fr (fun a _ => 102 ≤ a) σ τ) : RX S τ := ⟨h.1.fr hF (by intros; omega), h.2.1.fr hF (by intros; omega), h.2.2.1.fr hF (by intros; omega), h.2.2.2.1.fr hW.2.1.1 hF (by intros; omega), h.2.2.2.2.1.fr hW.2.2.1 hF (by intros; omega), h.2.2.2.2.2.fr hF (by intros; omega)⟩
theorem RM.fr {S : sS} {σ τ : zM} (hW : WF S) (h : RM S σ) (hF : Fr (fun a _ => a < 102) σ τ) : RM S τ := ⟨h.1.fr hF (by intros; omega), h.2.1.fr hF (by intros; omega), h.2.2.1.fr (fun l hl => (hW.1 l hl).1) hF (by intros; omega), h.2.2.2.1.fr hW.2.1.1 hF (by intros; omega), h.2.2.2.2.1.fr hF (by intros; omega), h.2.2.2.2.2.fr hF (by intros; omega)⟩
/-- scratch of the two -/
def xS (a _ : Nat) : Prop := 8 ≤ a ∧ a < 24 ∨ a = 100 ∨ a = 101
def mS (a j : Nat) : Prop := a = 102 ∧ (j = 12 ∨ j = 16 ∨ j = 18 ∨ j = 22 ∨ j = 26 ∨ j = 29 ∨ j = 30 ∨ j = 31 ∨ j = 34 ∨ j = 37 ∨ j = 38) ∨ a = 106 ∨ a = 109 ∧ j = 2 ∨ a = 110 ∧ 160 ≤ j ∨ a = 111 ∧ 32 ≤ j ∨ 112 ≤ a ∧ a < 124
theorem RX.scr {S : sS} {σ τ : zM} (hW : WF S) (h : RX S σ) (hF : Fr xS σ τ) : RX S τ := ⟨h.1.fr hF (by unfold xS; intros; omega), h.2.1.fr hF (by unfold xS; intros; omega), h.2.2.1.fr hF (by unfold xS; intros; omega), h.2.2.2.1.fr hW.2.1.1 hF (by unfold xS; intros; omega), h.2.2.2.2.1.fr hW.2.2.1 hF (by unfold xS; intros; omega), h.2.2.2.2.2.fr hF (by unfold xS; intros; omega)⟩
theorem RM.scr {S : sS} {σ τ : zM} (hW : WF S) (h : RM S σ) (hF : Fr mS σ τ) : RM S τ := ⟨h.1.fr hF (by unfold mS; intros; omega), h.2.1.fr hF (by unfold mS; intros; omega), h.2.2.1.fr (fun l hl => (hW.1 l hl).1) hF (by unfold mS; intros; omega), h.2.2.2.1.fr hW.2.1.1 hF (by unfold mS; intros; omega), h.2.2.2.2.1.fr hF (by unfold mS; intros; omega), h.2.2.2.2.2.fr hF (by unfold mS; intros; omega)⟩
