/-! a method's walk over the cells: At, and what it ends with: Ret -/
def zas : Nat → List (Option Value) → List (Nat × Value)
  | _, [] => []
  | k, none :: t => zas (k + 1) t
  | k, some v :: t => (k, v) :: zas (k + 1) t
theorem zas_mem {i : Nat} {v : Value} : ∀ {ls : List (Option Value)} {k : Nat}, (i, v) ∈ zas k ls ↔ k ≤ i ∧ ls[i - k]? = some (some v) := by
  intro ls
  induction ls with
  | nil => intro k; simp [zas]
  | cons a t ih =>
    intro k
    have key : (k + 1 ≤ i ∧ t[i - (k + 1)]? = some (some v)) ↔ (k < i ∧ (a :: t)[i - k]? = some (some v)) := by
      constructor
      · rintro ⟨h1, h2⟩
        refine ⟨h1, ?_⟩
        rw [show i - k = (i - (k + 1)) + 1 by omega, List.getElem?_cons_succ]
        exact h2
      · rintro ⟨h1, h2⟩
        refine ⟨h1, ?_⟩
        rw [show i - k = (i - (k + 1)) + 1 by omega, List.getElem?_cons_succ] at h2
        exact h2
    have base : ∀ {P : Prop}, (k ≤ i ∧ P) ↔ ((k = i ∧ P) ∨ (k < i ∧ P)) := by
      intro P
      constructor
      · rintro ⟨h1, h2⟩
        rcases Nat.lt_or_ge k i with q | q
        · exact Or.inr ⟨q, h2⟩
        · exact Or.inl ⟨by omega, h2⟩
      · rintro (⟨h1, h2⟩ | ⟨h1, h2⟩)
        · exact ⟨by omega, h2⟩
        · exact ⟨by omega, h2⟩
    rw [base, ← key]
    cases a with
    | none =>
      show (i, v) ∈ zas (k + 1) t ↔ _
      rw [ih]
      constructor
      · intro h; exact Or.inr h
      · rintro (⟨rfl, h2⟩ | h)
        · simp at h2
        · exact h
    | some w =>
      show (i, v) ∈ (k, w) :: zas (k + 1) t ↔ _
      rw [List.mem_cons, ih]
      constructor
      · rintro (h | h)
        · cases h
          exact Or.inl ⟨rfl, by simp⟩
        · exact Or.inr h
      · rintro (⟨rfl, h2⟩ | h)
        · simp at h2
          exact Or.inl (by rw [h2])
        · exact Or.inr h
theorem zas_at {la : Array Slot} {n : Nat} {ls : List (Option Value)} (h : lv_has la n (zas 0 ls)) {i : Nat} {v : Value} (hi : ls[i]? = some (some v)) : la[i]? = some (.val v) := h.2.2 (i, v) (zas_mem.mpr ⟨Nat.zero_le i, hi⟩)
theorem zas_sub {la : Array Slot} {n : Nat} {l : List (Nat × Value)} (h : lv_has la n l) {ls : List (Option Value)} (hs : ∀ (i : Nat) (v : Value), ls[i]? = some (some v) → (i, v) ∈ l) : lv_has la n (zas 0 ls) := by
  refine ⟨h.1, h.2.1, ?_⟩
  rintro ⟨i, v⟩ hq
  exact h.2.2 _ (hs i v (zas_mem.mp hq).2)
/-- the place before isn't the first half of a long -/
def zck (ls : List (Option Value)) (i : Nat) : Bool := match i with
  | 0 => true
  | j + 1 => match ls[j]? with
    | some (some (.long _)) => false
    | some (some (.double _)) => false
    | _ => true
theorem zck_cat {ls : List (Option Value)} {j : Nat} {w : Value} (h : zck ls (j + 1) = true) (hw : ls[j]? = some (some w)) : ¬ w.category = 2 := by
  unfold zck at h
  simp only [hw] at h
  cases w <;> simp_all [Value.category]
theorem zas_set1 {la : Array Slot} {n i : Nat} {v : Value} {ls : List (Option Value)} (h : lv_has la n ((i, v) :: (zas 0 ls).filter (fun q => !(q.1 == i) && !(q.1 + 1 == i && q.2.category == 2)))) (hc : zck ls i = true) : lv_has la n (zas 0 (ls.set i (some v))) := by
  refine zas_sub h fun j w hj => ?_
  rw [List.getElem?_set] at hj
  by_cases hij : i = j
  · subst hij
    rw [if_pos rfl] at hj
    by_cases hl : i < ls.length
    · rw [if_pos hl] at hj
      cases hj
      exact List.mem_cons_self
    · rw [if_neg hl] at hj
      cases hj
  · rw [if_neg hij] at hj
    refine List.mem_cons_of_mem _ (List.mem_filter.mpr ⟨zas_mem.mpr ⟨Nat.zero_le j, hj⟩, ?_⟩)
    have h1 : (j == i) = false := by simp; omega
    have h2 : (j + 1 == i && w.category == 2) = false := by
      by_cases hq : j + 1 = i
      · subst hq
        have := zck_cat hc hj
        simp [this]
      · simp [hq]
    simp [h1, h2]
theorem zas_set2 {la : Array Slot} {n i : Nat} {v : Value} {ls : List (Option Value)} (h : lv_has la n ((i, v) :: (zas 0 ls).filter (fun q => !(q.1 == i) && (!(q.1 == i + 1) && !(q.1 + 1 == i && q.2.category == 2))))) (hc : zck ls i = true) : lv_has la n (zas 0 ((ls.set i (some v)).set (i + 1) none)) := by
  refine zas_sub h fun j w hj => ?_
  rw [List.getElem?_set] at hj
  by_cases hij1 : i + 1 = j
  · subst hij1
    rw [if_pos rfl] at hj
    split at hj <;> cases hj
  · rw [if_neg hij1, List.getElem?_set] at hj
    by_cases hij : i = j
    · subst hij
      rw [if_pos rfl] at hj
      split at hj
      · cases hj
        exact List.mem_cons_self
      · cases hj
    · rw [if_neg hij] at hj
      refine List.mem_cons_of_mem _ (List.mem_filter.mpr ⟨zas_mem.mpr ⟨Nat.zero_le j, hj⟩, ?_⟩)
      have h1 : (j == i) = false := by simp; omega
      have h3 : (j == i + 1) = false := by simp; omega
      have h2 : (j + 1 == i && w.category == 2) = false := by
        by_cases hq : j + 1 = i
        · subst hq
          have := zck_cat hc hj
          simp [this]
        · simp [hq]
      simp [h1, h2, h3]
/-- fewer locals -/
def zle : List (Option Value) → List (Option Value) → Prop
  | [], _ => True
  | none :: t, [] => zle t []
  | none :: t, _ :: t' => zle t t'
  | some _ :: _, [] => False
  | some v :: t, b :: t' => b = some v ∧ zle t t'
theorem zle_at : ∀ {ls ls' : List (Option Value)}, zle ls' ls → ∀ {i : Nat} {v : Value}, ls'[i]? = some (some v) → ls[i]? = some (some v) := by
  intro ls ls'
  induction ls' generalizing ls with
  | nil => intro _ i v h; simp at h
  | cons a t ih =>
    intro h i v hv
    cases a with
    | none =>
      cases i with
      | zero => simp at hv
      | succ i =>
        rw [List.getElem?_cons_succ] at hv
        cases ls with
        | nil => exact absurd (ih (ls := []) h hv) (by simp)
        | cons b t' =>
          rw [List.getElem?_cons_succ]
          exact ih h hv
    | some w =>
      cases ls with
      | nil => exact absurd h (by simp [zle])
      | cons b t' =>
        obtain ⟨h1, h2⟩ := h
        cases i with
        | zero => simp at hv ⊢; rw [h1, hv]
        | succ i =>
          rw [List.getElem?_cons_succ] at hv ⊢
          exact ih h2 hv
/-- the words stay -/
def zgw (w : Cond) : Bool := match w with
  | .fieldLinkNest _ _ _ _ _ _ => true
  | .methodLinkNest _ _ _ _ => true
  | w => goodWord w
def zTb : List Cond := lw_tbl.filter zgw
theorem zin (i : Nat) {w : Cond} (h : tables_1[i]? = some w) (hg : zgw w = true) : w ∈ zTb := List.mem_filter.mpr ⟨List.mem_append_right _ (List.mem_of_getElem? h), hg⟩
theorem zin2 (i : Nat) {w : Cond} (h : (k2_sels lw_privs)[i]? = some w) (hg : zgw w = true) : w ∈ zTb := List.mem_filter.mpr ⟨List.mem_append_left _ (List.mem_of_getElem? h), hg⟩
def zX (E : zE) (M : zY) (p : Program) (s : State) (m : MethodId) (args : Array Value) (meth : Method) (c : Code) : Prop :=
  p.tables.exec = Jvm.exec ∧ c.code = M.2.1 ∧ c.maxLocals = M.2.2.1 ∧ meth.sig.returnType = M.2.2.2 ∧ meth.locks = false ∧ s.vm.findClass M.1.cls = some m.cls ∧ (∀ w ∈ zTb, w.before args s = true) ∧ va_K (zD E) vwCl (zT E) s
def zRm (d : Nat) : Room := { frames := d + 1, cells := 0, slots := 0, locals := 64 * (d + 1) }
def zQ (E : zE) (Q : Option Value → zM → Prop) : Array Value → State → Outcome → State → Prop := fun _ st oc t => (∃ (v : Option Value) (σ : zM), oc = .returned v ∧ Q v σ ∧ va_P (zD E) vwCl (zW E σ) t.heap ∧ va_K (zD E) vwCl (zT E) t) ∧ va_F (zA E) st t
def zP (E : zE) (av : List Value) (σ : zM) : Array Value → State → Prop := va_Pc av (fun U => va_P (zD E) vwCl (zW E σ) U.heap ∧ va_K (zD E) vwCl (zT E) U)
def zws (M : zY) : List Cond := Cond.code M.1 M.2.1 M.2.2.1 M.2.2.2 :: zTb
def At (E : zE) (M : zY) (d : Nat) (Q : Option Value → zM → Prop) (pc : Nat) (ls : List (Option Value)) (st : List Value) (σ : zM) : Prop :=
  ∀ (p : Program) (e : Env) (s : State) (m : MethodId) (args : Array Value) (below : List Frame) (meth : Method) (c : Code) (H : Heap) (locs : List Loc) (la : Array Slot), zX E M p s m args meth c → va_P (zD E) vwCl (zW E σ) H → va_S (zA E) s.heap H locs → lv_has la M.2.2.1 (zas 0 ls) →
    W p E.1 e (zRm d) s m args below meth c H locs 0 0 (MQ below (zQ E Q) args s 0 0 (zA E)) (F0 m pc la st)
def Ret (E : zE) (M : zY) (d : Nat) (av : List Value) (σ : zM) (Q : Option Value → zM → Prop) : Prop := Met E.1 M.1 (zws M) (zRm d) (zP E av σ) (zQ E Q) 0 0 (zA E)
theorem z_pay {s : State} {args : Array Value} (hts : ∀ w ∈ zTb, w.before args s = true) : ∀ w ∈ zTb, ∀ (a' : Array Value) (U : State), s.WarmedH U.vm → w.before a' U = true := by
  intro w hw a' U hW
  have hg : zgw w = true := (List.mem_filter.mp hw).2
  have hb := hts w hw
  have gen : goodWord w = true → w.before a' U = true := fun h => word_at hW (good_of_word h) hb
  cases w with
  | fieldLinkNest a i b n d h => exact va_Nw.use rfl (va_Nw.warmF hW (va_Nw.of rfl hb))
  | methodLinkNest a i x h => exact va_Nw.use rfl (va_Nw.warmM hW (va_Nw.of rfl hb))
  | _ => exact gen hg
theorem z_blind (E : zE) (av : List Value) (σ : zM) : FrameBlind (zP E av σ) := by
  intro a U g mk q
  obtain ⟨q0, qP, qK⟩ := q
  exact ⟨q0, qP, va_K.moved (u := U) (U := U.calling g mk a) (Vm.Alike.refl U.vm) qK⟩
/-- from the entry -/
theorem Ret.of {E : zE} {M : zY} {d : Nat} {av : List Value} {σ : zM} {Q : Option Value → zM → Prop} (ls : List (Option Value)) (hy : plainName M.1.cls = true) (hn : (lg_sl av).length ≤ M.2.2.1) (hs : zas 0 ls = lv_args 0 av) (h : At E M d Q 0 ls [] σ) : Ret E M d av σ Q := by
  refine Met.ofW (cc := M.2.1) (maxL := M.2.2.1) (ret := M.2.2.2) (ws' := zTb) hy rfl ?_
  intro p e s m args below meth c s₁ B hml hv
  obtain ⟨rfl, hP, hK⟩ := hv
  have hts := atoms_spec (ws := zws M) B.pre
  have hl := lv_entry av (n := M.2.2.1) hn
  rw [lg_entry_eq]
  exact h p e s m _ below meth c s.heap [] _ ⟨B.exec, B.bytes, hml, B.returns, B.notSynchronized, findClass_of_methodNamed B.named, fun w hw => hts w (List.mem_cons_of_mem _ hw), hK⟩ hP va_S.rf (by rw [hs]; exact hl)
theorem Ret.imp {E : zE} {M : zY} {d : Nat} {av : List Value} {σ : zM} {Q Q' : Option Value → zM → Prop} (h : Ret E M d av σ Q) (hq : ∀ v τ, Q v τ → Q' v τ) : Ret E M d av σ Q' := by
  intro p e ha hc hk s m args below hf hs hP hT
  obtain ⟨t, o, a1, b1, b2, b3, b4⟩ := h p e ha hc hk s m args below hf hs hP hT
  obtain ⟨⟨v, τ, h1, h2, h3⟩, h4⟩ := b3
  exact ⟨t, o, a1, b1, b2, ⟨⟨v, τ, h1, hq v τ h2, h3⟩, h4⟩, b4⟩
section Rows
variable {E : zE} {M : zY} {d : Nat} {Q : Option Value → zM → Prop} {pc : Nat} {ls : List (Option Value)} {st : List Value} {σ : zM}
theorem z_sub (ls' : List (Option Value)) (h : zle ls' ls) (k : At E M d Q pc ls' st σ) : At E M d Q pc ls st σ := fun p e s m args below meth c H locs la hX hP hS hl =>
  k p e s m args below meth c H locs la hX hP hS (zas_sub hl fun i v hv => zas_mem.mpr ⟨Nat.zero_le i, zle_at h hv⟩)
theorem z_iconst (pc' : Nat) {n : Int} {v : Int32} (hd : decode M.2.1 pc = .ok (.iconst n, 1)) (hp : pc + 1 = pc') (hv : Int32.ofInt n = v) (k : At E M d Q pc' ls (.int v :: st) σ) : At E M d Q pc ls (st) σ := by
  subst hp
  exact fun p e s m args below meth c H locs la hX hP hS hl => lv_iconst hX.1 hX.2.1 hd hv (k p e s m args below meth c H locs la hX hP hS hl)
theorem z_bipush (pc' : Nat) {n : Int} {v : Int32} (hd : decode M.2.1 pc = .ok (.bipush n, 2)) (hp : pc + 2 = pc') (hv : (Int8.ofInt n).toInt32 = v) (k : At E M d Q pc' ls (.int v :: st) σ) : At E M d Q pc ls (st) σ := by
  subst hp
  exact fun p e s m args below meth c H locs la hX hP hS hl => lv_bipush hX.1 hX.2.1 hd hv (k p e s m args below meth c H locs la hX hP hS hl)
theorem z_sipush (pc' : Nat) {n : Int} {v : Int32} (hd : decode M.2.1 pc = .ok (.sipush n, 3)) (hp : pc + 3 = pc') (hv : (Int16.ofInt n).toInt32 = v) (k : At E M d Q pc' ls (.int v :: st) σ) : At E M d Q pc ls (st) σ := by
  subst hp
  exact fun p e s m args below meth c H locs la hX hP hS hl => lv_sipush hX.1 hX.2.1 hd hv (k p e s m args below meth c H locs la hX hP hS hl)
theorem z_lconst (pc' : Nat) {n : Fin 2} {v : Int64} (hd : decode M.2.1 pc = .ok (.lconst n, 1)) (hp : pc + 1 = pc') (hv : Int64.ofNat (n : Nat) = v) (k : At E M d Q pc' ls (.long v :: st) σ) : At E M d Q pc ls (st) σ := by
  subst hp
  exact fun p e s m args below meth c H locs la hX hP hS hl => lv_lconst hX.1 hX.2.1 hd hv (k p e s m args below meth c H locs la hX hP hS hl)
theorem z_null (pc' : Nat) (hd : decode M.2.1 pc = .ok (.aconst_null, 1)) (hp : pc + 1 = pc') (k : At E M d Q pc' ls (.null :: st) σ) : At E M d Q pc ls (st) σ := by
  subst hp
  exact fun p e s m args below meth c H locs la hX hP hS hl => lv_null hX.1 hX.2.1 hd (k p e s m args below meth c H locs la hX hP hS hl)
theorem z_iload (pc' : Nat) {i : Nat} {x : Int32} (hd : decode M.2.1 pc = .ok (.iload i, 2)) (hp : pc + 2 = pc') (hi : ls[i]? = some (some (.int x))) (k : At E M d Q pc' ls (.int x :: st) σ) : At E M d Q pc ls (st) σ := by
  subst hp
  exact fun p e s m args below meth c H locs la hX hP hS hl => lv_iload hX.1 hX.2.1 hd (zas_at hl hi) (k p e s m args below meth c H locs la hX hP hS hl)
theorem z_lload (pc' : Nat) {i : Nat} {x : Int64} (hd : decode M.2.1 pc = .ok (.lload i, 2)) (hp : pc + 2 = pc') (hi : ls[i]? = some (some (.long x))) (k : At E M d Q pc' ls (.long x :: st) σ) : At E M d Q pc ls (st) σ := by
  subst hp
  exact fun p e s m args below meth c H locs la hX hP hS hl => lv_lload hX.1 hX.2.1 hd (zas_at hl hi) (k p e s m args below meth c H locs la hX hP hS hl)
theorem z_iload_n (pc' : Nat) {n : Fin 4} {x : Int32} (hd : decode M.2.1 pc = .ok (.iload_n n, 1)) (hp : pc + 1 = pc') (hi : ls[(n : Nat)]? = some (some (.int x))) (k : At E M d Q pc' ls (.int x :: st) σ) : At E M d Q pc ls (st) σ := by
  subst hp
  exact fun p e s m args below meth c H locs la hX hP hS hl => lv_iload_n hX.1 hX.2.1 hd rfl (zas_at hl hi) (k p e s m args below meth c H locs la hX hP hS hl)
theorem z_lload_n (pc' : Nat) {n : Fin 4} {x : Int64} (hd : decode M.2.1 pc = .ok (.lload_n n, 1)) (hp : pc + 1 = pc') (hi : ls[(n : Nat)]? = some (some (.long x))) (k : At E M d Q pc' ls (.long x :: st) σ) : At E M d Q pc ls (st) σ := by
  subst hp
  exact fun p e s m args below meth c H locs la hX hP hS hl => lv_lload_n hX.1 hX.2.1 hd rfl (zas_at hl hi) (k p e s m args below meth c H locs la hX hP hS hl)
theorem z_aload (pc' : Nat) {i : Nat} {x : Nat} (hd : decode M.2.1 pc = .ok (.aload i, 2)) (hp : pc + 2 = pc') (hi : ls[i]? = some (some (zr E x))) (k : At E M d Q pc' ls (zr E x :: st) σ) : At E M d Q pc ls (st) σ := by
  subst hp
  exact fun p e s m args below meth c H locs la hX hP hS hl => lv_aload hX.1 hX.2.1 hd (zas_at hl hi) (k p e s m args below meth c H locs la hX hP hS hl)
theorem z_aload_n (pc' : Nat) {n : Fin 4} {x : Nat} (hd : decode M.2.1 pc = .ok (.aload_n n, 1)) (hp : pc + 1 = pc') (hi : ls[(n : Nat)]? = some (some (zr E x))) (k : At E M d Q pc' ls (zr E x :: st) σ) : At E M d Q pc ls (st) σ := by
  subst hp
  exact fun p e s m args below meth c H locs la hX hP hS hl => lv_aload_n hX.1 hX.2.1 hd rfl (zas_at hl hi) (k p e s m args below meth c H locs la hX hP hS hl)
theorem z_aloadN (pc' : Nat) {i : Nat} (hd : decode M.2.1 pc = .ok (.aload i, 2)) (hp : pc + 2 = pc') (hi : ls[i]? = some (some .null)) (k : At E M d Q pc' ls (.null :: st) σ) : At E M d Q pc ls (st) σ := by
  subst hp
  exact fun p e s m args below meth c H locs la hX hP hS hl => lv_aloadN hX.1 hX.2.1 hd (zas_at hl hi) (k p e s m args below meth c H locs la hX hP hS hl)
theorem z_aload_nN (pc' : Nat) {n : Fin 4} (hd : decode M.2.1 pc = .ok (.aload_n n, 1)) (hp : pc + 1 = pc') (hi : ls[(n : Nat)]? = some (some .null)) (k : At E M d Q pc' ls (.null :: st) σ) : At E M d Q pc ls (st) σ := by
  subst hp
  exact fun p e s m args below meth c H locs la hX hP hS hl => lv_aload_nN hX.1 hX.2.1 hd rfl (zas_at hl hi) (k p e s m args below meth c H locs la hX hP hS hl)
theorem z_iadd (pc' : Nat) {x y : Int32} (hd : decode M.2.1 pc = .ok (.iadd, 1)) (hp : pc + 1 = pc') (k : At E M d Q pc' ls (.int (x + y) :: st) σ) : At E M d Q pc ls (.int y :: .int x :: st) σ := by
  subst hp
  exact fun p e s m args below meth c H locs la hX hP hS hl => lv_iadd hX.1 hX.2.1 hd (k p e s m args below meth c H locs la hX hP hS hl)
theorem z_isub (pc' : Nat) {x y : Int32} (hd : decode M.2.1 pc = .ok (.isub, 1)) (hp : pc + 1 = pc') (k : At E M d Q pc' ls (.int (x - y) :: st) σ) : At E M d Q pc ls (.int y :: .int x :: st) σ := by
  subst hp
  exact fun p e s m args below meth c H locs la hX hP hS hl => lv_isub hX.1 hX.2.1 hd (k p e s m args below meth c H locs la hX hP hS hl)
theorem z_imul (pc' : Nat) {x y : Int32} (hd : decode M.2.1 pc = .ok (.imul, 1)) (hp : pc + 1 = pc') (k : At E M d Q pc' ls (.int (x * y) :: st) σ) : At E M d Q pc ls (.int y :: .int x :: st) σ := by
  subst hp
  exact fun p e s m args below meth c H locs la hX hP hS hl => lv_imul hX.1 hX.2.1 hd (k p e s m args below meth c H locs la hX hP hS hl)
theorem z_iand (pc' : Nat) {x y : Int32} (hd : decode M.2.1 pc = .ok (.iand, 1)) (hp : pc + 1 = pc') (k : At E M d Q pc' ls (.int (x &&& y) :: st) σ) : At E M d Q pc ls (.int y :: .int x :: st) σ := by
  subst hp
  exact fun p e s m args below meth c H locs la hX hP hS hl => lv_iand hX.1 hX.2.1 hd (k p e s m args below meth c H locs la hX hP hS hl)
theorem z_ior (pc' : Nat) {x y : Int32} (hd : decode M.2.1 pc = .ok (.ior, 1)) (hp : pc + 1 = pc') (k : At E M d Q pc' ls (.int (x ||| y) :: st) σ) : At E M d Q pc ls (.int y :: .int x :: st) σ := by
  subst hp
  exact fun p e s m args below meth c H locs la hX hP hS hl => lv_ior hX.1 hX.2.1 hd (k p e s m args below meth c H locs la hX hP hS hl)
theorem z_ixor (pc' : Nat) {x y : Int32} (hd : decode M.2.1 pc = .ok (.ixor, 1)) (hp : pc + 1 = pc') (k : At E M d Q pc' ls (.int (x ^^^ y) :: st) σ) : At E M d Q pc ls (.int y :: .int x :: st) σ := by
  subst hp
  exact fun p e s m args below meth c H locs la hX hP hS hl => lv_ixor hX.1 hX.2.1 hd (k p e s m args below meth c H locs la hX hP hS hl)
theorem z_ishl (pc' : Nat) {x y : Int32} (hd : decode M.2.1 pc = .ok (.ishl, 1)) (hp : pc + 1 = pc') (k : At E M d Q pc' ls (.int (x <<< (y &&& 31)) :: st) σ) : At E M d Q pc ls (.int y :: .int x :: st) σ := by
  subst hp
  exact fun p e s m args below meth c H locs la hX hP hS hl => lv_ishl hX.1 hX.2.1 hd (k p e s m args below meth c H locs la hX hP hS hl)
theorem z_ishr (pc' : Nat) {x y : Int32} (hd : decode M.2.1 pc = .ok (.ishr, 1)) (hp : pc + 1 = pc') (k : At E M d Q pc' ls (.int (x >>> (y &&& 31)) :: st) σ) : At E M d Q pc ls (.int y :: .int x :: st) σ := by
  subst hp
  exact fun p e s m args below meth c H locs la hX hP hS hl => lv_ishr hX.1 hX.2.1 hd (k p e s m args below meth c H locs la hX hP hS hl)
theorem z_idiv (pc' : Nat) {x y : Int32} (hd : decode M.2.1 pc = .ok (.idiv, 1)) (hp : pc + 1 = pc') (hne : ¬ y = 0) (k : At E M d Q pc' ls (.int (x / y) :: st) σ) : At E M d Q pc ls (.int y :: .int x :: st) σ := by
  subst hp
  exact fun p e s m args below meth c H locs la hX hP hS hl => lv_idiv hX.1 hX.2.1 hd hne (k p e s m args below meth c H locs la hX hP hS hl)
theorem z_irem (pc' : Nat) {x y : Int32} (hd : decode M.2.1 pc = .ok (.irem, 1)) (hp : pc + 1 = pc') (hne : ¬ y = 0) (k : At E M d Q pc' ls (.int (x - x / y * y) :: st) σ) : At E M d Q pc ls (.int y :: .int x :: st) σ := by
  subst hp
  exact fun p e s m args below meth c H locs la hX hP hS hl => lv_irem hX.1 hX.2.1 hd hne (k p e s m args below meth c H locs la hX hP hS hl)
theorem z_ladd (pc' : Nat) {x y : Int64} (hd : decode M.2.1 pc = .ok (.ladd, 1)) (hp : pc + 1 = pc') (k : At E M d Q pc' ls (.long (x + y) :: st) σ) : At E M d Q pc ls (.long y :: .long x :: st) σ := by
  subst hp
  exact fun p e s m args below meth c H locs la hX hP hS hl => lv_ladd hX.1 hX.2.1 hd (k p e s m args below meth c H locs la hX hP hS hl)
theorem z_lsub (pc' : Nat) {x y : Int64} (hd : decode M.2.1 pc = .ok (.lsub, 1)) (hp : pc + 1 = pc') (k : At E M d Q pc' ls (.long (x - y) :: st) σ) : At E M d Q pc ls (.long y :: .long x :: st) σ := by
  subst hp
  exact fun p e s m args below meth c H locs la hX hP hS hl => lv_lsub hX.1 hX.2.1 hd (k p e s m args below meth c H locs la hX hP hS hl)
theorem z_lmul (pc' : Nat) {x y : Int64} (hd : decode M.2.1 pc = .ok (.lmul, 1)) (hp : pc + 1 = pc') (k : At E M d Q pc' ls (.long (x * y) :: st) σ) : At E M d Q pc ls (.long y :: .long x :: st) σ := by
  subst hp
  exact fun p e s m args below meth c H locs la hX hP hS hl => lv_lmul hX.1 hX.2.1 hd (k p e s m args below meth c H locs la hX hP hS hl)
theorem z_ldiv (pc' : Nat) {x y : Int64} (hd : decode M.2.1 pc = .ok (.ldiv, 1)) (hp : pc + 1 = pc') (hne : ¬ y = 0) (k : At E M d Q pc' ls (.long (x / y) :: st) σ) : At E M d Q pc ls (.long y :: .long x :: st) σ := by
  subst hp
  exact fun p e s m args below meth c H locs la hX hP hS hl => lv_ldiv hX.1 hX.2.1 hd hne (k p e s m args below meth c H locs la hX hP hS hl)
theorem z_lrem (pc' : Nat) {x y : Int64} (hd : decode M.2.1 pc = .ok (.lrem, 1)) (hp : pc + 1 = pc') (hne : ¬ y = 0) (k : At E M d Q pc' ls (.long (x - x / y * y) :: st) σ) : At E M d Q pc ls (.long y :: .long x :: st) σ := by
  subst hp
  exact fun p e s m args below meth c H locs la hX hP hS hl => lv_lrem hX.1 hX.2.1 hd hne (k p e s m args below meth c H locs la hX hP hS hl)
theorem z_lcmp (pc' : Nat) {x y : Int64} (hd : decode M.2.1 pc = .ok (.lcmp, 1)) (hp : pc + 1 = pc') (k : At E M d Q pc' ls (.int (lg_cmp x y) :: st) σ) : At E M d Q pc ls (.long y :: .long x :: st) σ := by
  subst hp
  exact fun p e s m args below meth c H locs la hX hP hS hl => W.lcmp hX.1 hX.2.1 hd (k p e s m args below meth c H locs la hX hP hS hl)
theorem z_iushr (pc' : Nat) {x y : Int32} (hd : decode M.2.1 pc = .ok (.iushr, 1)) (hp : pc + 1 = pc') (k : At E M d Q pc' ls (.int ((x.toUInt32 >>> (y.toUInt32 &&& Int32.toUInt32 31)).toInt32) :: st) σ) : At E M d Q pc ls (.int y :: .int x :: st) σ := by
  subst hp
  exact fun p e s m args below meth c H locs la hX hP hS hl => lv_iushr hX.1 hX.2.1 hd rfl (k p e s m args below meth c H locs la hX hP hS hl)
theorem z_i2l (pc' : Nat) {x : Int32} (hd : decode M.2.1 pc = .ok (.i2l, 1)) (hp : pc + 1 = pc') (k : At E M d Q pc' ls (.long x.toInt64 :: st) σ) : At E M d Q pc ls (.int x :: st) σ := by
  subst hp
  exact fun p e s m args below meth c H locs la hX hP hS hl => lv_i2l hX.1 hX.2.1 hd rfl (k p e s m args below meth c H locs la hX hP hS hl)
theorem z_l2i (pc' : Nat) {x : Int64} (hd : decode M.2.1 pc = .ok (.l2i, 1)) (hp : pc + 1 = pc') (k : At E M d Q pc' ls (.int x.toInt32 :: st) σ) : At E M d Q pc ls (.long x :: st) σ := by
  subst hp
  exact fun p e s m args below meth c H locs la hX hP hS hl => lv_l2i hX.1 hX.2.1 hd rfl (k p e s m args below meth c H locs la hX hP hS hl)
theorem z_i2b (pc' : Nat) {x : Int32} (hd : decode M.2.1 pc = .ok (.i2b, 1)) (hp : pc + 1 = pc') (k : At E M d Q pc' ls (.int x.toInt8.toInt32 :: st) σ) : At E M d Q pc ls (.int x :: st) σ := by
  subst hp
  exact fun p e s m args below meth c H locs la hX hP hS hl => lv_i2b hX.1 hX.2.1 hd rfl (k p e s m args below meth c H locs la hX hP hS hl)
theorem z_dup (pc' : Nat) {va : Value} (hd : decode M.2.1 pc = .ok (.dup, 1)) (hp : pc + 1 = pc') (hc : va.category = 1) (k : At E M d Q pc' ls (va :: va :: st) σ) : At E M d Q pc ls (va :: st) σ := by
  subst hp
  exact fun p e s m args below meth c H locs la hX hP hS hl => lv_dup hX.1 hX.2.1 hd hc (k p e s m args below meth c H locs la hX hP hS hl)
theorem z_pop (pc' : Nat) {va : Value} (hd : decode M.2.1 pc = .ok (.pop, 1)) (hp : pc + 1 = pc') (hc : va.category = 1) (k : At E M d Q pc' ls (st) σ) : At E M d Q pc ls (va :: st) σ := by
  subst hp
  exact fun p e s m args below meth c H locs la hX hP hS hl => lv_pop hX.1 hX.2.1 hd hc (k p e s m args below meth c H locs la hX hP hS hl)
theorem z_dup2 (pc' : Nat) {va vb : Value} (hd : decode M.2.1 pc = .ok (.dup2, 1)) (hp : pc + 1 = pc') (hc : va.category = 1) (hc2 : vb.category = 1) (k : At E M d Q pc' ls (va :: vb :: va :: vb :: st) σ) : At E M d Q pc ls (va :: vb :: st) σ := by
  subst hp
  exact fun p e s m args below meth c H locs la hX hP hS hl => lv_dup2_11 hX.1 hX.2.1 hd hc hc2 (k p e s m args below meth c H locs la hX hP hS hl)
theorem z_dup2l (pc' : Nat) {va : Value} (hd : decode M.2.1 pc = .ok (.dup2, 1)) (hp : pc + 1 = pc') (hc : va.category = 2) (k : At E M d Q pc' ls (va :: va :: st) σ) : At E M d Q pc ls (va :: st) σ := by
  subst hp
  exact fun p e s m args below meth c H locs la hX hP hS hl => lv_dup2_2 hX.1 hX.2.1 hd hc (k p e s m args below meth c H locs la hX hP hS hl)
theorem z_ldc2 (pc' : Nat) {i : Nat} {v : Int64} (hd : decode M.2.1 pc = .ok (.ldc2_w i, 3)) (hp : pc + 3 = pc') (hc : Cond.constantLong M.1.cls i v ∈ zTb) (k : At E M d Q pc' ls (.long v :: st) σ) : At E M d Q pc ls (st) σ := by
  subst hp
  exact fun p e s m args below meth c H locs la hX hP hS hl => (fun hx hb hc hd k => lv_ldc2 hx hb hX.2.2.2.2.2.1 (hX.2.2.2.2.2.2.1 _ hc) hd k) hX.1 hX.2.1 hc hd (k p e s m args below meth c H locs la hX hP hS hl)
theorem z_ldcw (pc' : Nat) {i : Nat} {v : Int32} (hd : decode M.2.1 pc = .ok (.ldc_w i, 3)) (hp : pc + 3 = pc') (hc : Cond.constant M.1.cls i v ∈ zTb) (k : At E M d Q pc' ls (.int v :: st) σ) : At E M d Q pc ls (st) σ := by
  subst hp
  exact fun p e s m args below meth c H locs la hX hP hS hl => (fun hx hb hc hd k => lv_ldcw hx hb hX.2.2.2.2.2.1 (hX.2.2.2.2.2.2.1 _ hc) hd k) hX.1 hX.2.1 hc hd (k p e s m args below meth c H locs la hX hP hS hl)
theorem z_goto (tgt : Nat) {off : Int} (hd : decode M.2.1 pc = .ok (.goto off, 3)) (ht : (pc : Int) + off = (tgt : Int)) (k : At E M d Q tgt ls st σ) : At E M d Q pc ls st σ := fun p e s m args below meth c H locs la hX hP hS hl => lv_goto hX.1 hX.2.1 hd ht (k p e s m args below meth c H locs la hX hP hS hl)
theorem z_if_eq (tgt pc' : Nat) {x : Int32} {off : Int} (hd : decode M.2.1 pc = .ok (.ifCond .eq off, 3)) (ht : (pc : Int) + off = (tgt : Int)) (hp : pc + 3 = pc') (kt : x = 0 → At E M d Q tgt ls st σ) (kf : ¬ x = 0 → At E M d Q pc' ls st σ) : At E M d Q pc ls (.int x :: st) σ := by
  subst hp
  exact fun p e s m args below meth c H locs la hX hP hS hl => lv_if_eq hX.1 hX.2.1 hd ht (fun h => kt h p e s m args below meth c H locs la hX hP hS hl) (fun h => kf h p e s m args below meth c H locs la hX hP hS hl)
theorem z_if_ne (tgt pc' : Nat) {x : Int32} {off : Int} (hd : decode M.2.1 pc = .ok (.ifCond .ne off, 3)) (ht : (pc : Int) + off = (tgt : Int)) (hp : pc + 3 = pc') (kt : ¬ x = 0 → At E M d Q tgt ls st σ) (kf : x = 0 → At E M d Q pc' ls st σ) : At E M d Q pc ls (.int x :: st) σ := by
  subst hp
  exact fun p e s m args below meth c H locs la hX hP hS hl => lv_if_ne hX.1 hX.2.1 hd ht (fun h => kt h p e s m args below meth c H locs la hX hP hS hl) (fun h => kf h p e s m args below meth c H locs la hX hP hS hl)
theorem z_if_lt (tgt pc' : Nat) {x : Int32} {off : Int} (hd : decode M.2.1 pc = .ok (.ifCond .lt off, 3)) (ht : (pc : Int) + off = (tgt : Int)) (hp : pc + 3 = pc') (kt : x < 0 → At E M d Q tgt ls st σ) (kf : ¬ x < 0 → At E M d Q pc' ls st σ) : At E M d Q pc ls (.int x :: st) σ := by
  subst hp
  exact fun p e s m args below meth c H locs la hX hP hS hl => lv_if_lt hX.1 hX.2.1 hd ht (fun h => kt h p e s m args below meth c H locs la hX hP hS hl) (fun h => kf h p e s m args below meth c H locs la hX hP hS hl)
theorem z_if_ge (tgt pc' : Nat) {x : Int32} {off : Int} (hd : decode M.2.1 pc = .ok (.ifCond .ge off, 3)) (ht : (pc : Int) + off = (tgt : Int)) (hp : pc + 3 = pc') (kt : 0 ≤ x → At E M d Q tgt ls st σ) (kf : ¬ 0 ≤ x → At E M d Q pc' ls st σ) : At E M d Q pc ls (.int x :: st) σ := by
  subst hp
  exact fun p e s m args below meth c H locs la hX hP hS hl => lv_if_ge hX.1 hX.2.1 hd ht (fun h => kt h p e s m args below meth c H locs la hX hP hS hl) (fun h => kf h p e s m args below meth c H locs la hX hP hS hl)
theorem z_if_gt (tgt pc' : Nat) {x : Int32} {off : Int} (hd : decode M.2.1 pc = .ok (.ifCond .gt off, 3)) (ht : (pc : Int) + off = (tgt : Int)) (hp : pc + 3 = pc') (kt : 0 < x → At E M d Q tgt ls st σ) (kf : ¬ 0 < x → At E M d Q pc' ls st σ) : At E M d Q pc ls (.int x :: st) σ := by
  subst hp
  exact fun p e s m args below meth c H locs la hX hP hS hl => lv_if_gt hX.1 hX.2.1 hd ht (fun h => kt h p e s m args below meth c H locs la hX hP hS hl) (fun h => kf h p e s m args below meth c H locs la hX hP hS hl)
theorem z_if_le (tgt pc' : Nat) {x : Int32} {off : Int} (hd : decode M.2.1 pc = .ok (.ifCond .le off, 3)) (ht : (pc : Int) + off = (tgt : Int)) (hp : pc + 3 = pc') (kt : x ≤ 0 → At E M d Q tgt ls st σ) (kf : ¬ x ≤ 0 → At E M d Q pc' ls st σ) : At E M d Q pc ls (.int x :: st) σ := by
  subst hp
  exact fun p e s m args below meth c H locs la hX hP hS hl => lv_if_le hX.1 hX.2.1 hd ht (fun h => kt h p e s m args below meth c H locs la hX hP hS hl) (fun h => kf h p e s m args below meth c H locs la hX hP hS hl)
theorem z_icmp_eq (tgt pc' : Nat) {x y : Int32} {off : Int} (hd : decode M.2.1 pc = .ok (.if_icmp .eq off, 3)) (ht : (pc : Int) + off = (tgt : Int)) (hp : pc + 3 = pc') (kt : x = y → At E M d Q tgt ls st σ) (kf : ¬ x = y → At E M d Q pc' ls st σ) : At E M d Q pc ls (.int y :: .int x :: st) σ := by
  subst hp
  exact fun p e s m args below meth c H locs la hX hP hS hl => lv_icmp_eq hX.1 hX.2.1 hd ht (fun h => kt h p e s m args below meth c H locs la hX hP hS hl) (fun h => kf h p e s m args below meth c H locs la hX hP hS hl)
theorem z_icmp_ne (tgt pc' : Nat) {x y : Int32} {off : Int} (hd : decode M.2.1 pc = .ok (.if_icmp .ne off, 3)) (ht : (pc : Int) + off = (tgt : Int)) (hp : pc + 3 = pc') (kt : ¬ x = y → At E M d Q tgt ls st σ) (kf : x = y → At E M d Q pc' ls st σ) : At E M d Q pc ls (.int y :: .int x :: st) σ := by
  subst hp
  exact fun p e s m args below meth c H locs la hX hP hS hl => lv_icmp_ne hX.1 hX.2.1 hd ht (fun h => kt h p e s m args below meth c H locs la hX hP hS hl) (fun h => kf h p e s m args below meth c H locs la hX hP hS hl)
theorem z_icmp_lt (tgt pc' : Nat) {x y : Int32} {off : Int} (hd : decode M.2.1 pc = .ok (.if_icmp .lt off, 3)) (ht : (pc : Int) + off = (tgt : Int)) (hp : pc + 3 = pc') (kt : x < y → At E M d Q tgt ls st σ) (kf : ¬ x < y → At E M d Q pc' ls st σ) : At E M d Q pc ls (.int y :: .int x :: st) σ := by
  subst hp
  exact fun p e s m args below meth c H locs la hX hP hS hl => lv_icmp_lt hX.1 hX.2.1 hd ht (fun h => kt h p e s m args below meth c H locs la hX hP hS hl) (fun h => kf h p e s m args below meth c H locs la hX hP hS hl)
theorem z_icmp_ge (tgt pc' : Nat) {x y : Int32} {off : Int} (hd : decode M.2.1 pc = .ok (.if_icmp .ge off, 3)) (ht : (pc : Int) + off = (tgt : Int)) (hp : pc + 3 = pc') (kt : y ≤ x → At E M d Q tgt ls st σ) (kf : ¬ y ≤ x → At E M d Q pc' ls st σ) : At E M d Q pc ls (.int y :: .int x :: st) σ := by
  subst hp
  exact fun p e s m args below meth c H locs la hX hP hS hl => lv_icmp_ge hX.1 hX.2.1 hd ht (fun h => kt h p e s m args below meth c H locs la hX hP hS hl) (fun h => kf h p e s m args below meth c H locs la hX hP hS hl)
theorem z_icmp_gt (tgt pc' : Nat) {x y : Int32} {off : Int} (hd : decode M.2.1 pc = .ok (.if_icmp .gt off, 3)) (ht : (pc : Int) + off = (tgt : Int)) (hp : pc + 3 = pc') (kt : y < x → At E M d Q tgt ls st σ) (kf : ¬ y < x → At E M d Q pc' ls st σ) : At E M d Q pc ls (.int y :: .int x :: st) σ := by
  subst hp
  exact fun p e s m args below meth c H locs la hX hP hS hl => lv_icmp_gt hX.1 hX.2.1 hd ht (fun h => kt h p e s m args below meth c H locs la hX hP hS hl) (fun h => kf h p e s m args below meth c H locs la hX hP hS hl)
theorem z_icmp_le (tgt pc' : Nat) {x y : Int32} {off : Int} (hd : decode M.2.1 pc = .ok (.if_icmp .le off, 3)) (ht : (pc : Int) + off = (tgt : Int)) (hp : pc + 3 = pc') (kt : x ≤ y → At E M d Q tgt ls st σ) (kf : ¬ x ≤ y → At E M d Q pc' ls st σ) : At E M d Q pc ls (.int y :: .int x :: st) σ := by
  subst hp
  exact fun p e s m args below meth c H locs la hX hP hS hl => lv_icmp_le hX.1 hX.2.1 hd ht (fun h => kt h p e s m args below meth c H locs la hX hP hS hl) (fun h => kf h p e s m args below meth c H locs la hX hP hS hl)
theorem z_ifnull (pc' : Nat) {a : Nat} {off : Int} (hd : decode M.2.1 pc = .ok (.ifnull off, 3)) (hp : pc + 3 = pc') (k : At E M d Q pc' ls st σ) : At E M d Q pc ls (zr E a :: st) σ := by
  subst hp
  exact fun p e s m args below meth c H locs la hX hP hS hl => lv_ifnull hX.1 hX.2.1 hd (k p e s m args below meth c H locs la hX hP hS hl)
theorem z_ifnullN (tgt : Nat) {off : Int} (hd : decode M.2.1 pc = .ok (.ifnull off, 3)) (ht : (pc : Int) + off = (tgt : Int)) (k : At E M d Q tgt ls st σ) : At E M d Q pc ls (.null :: st) σ := fun p e s m args below meth c H locs la hX hP hS hl => lv_ifnullN hX.1 hX.2.1 hd ht (k p e s m args below meth c H locs la hX hP hS hl)
theorem z_istoreg (pc' : Nat) {i : Nat} {x : Int32} {ls' : List (Option Value)} (hd : decode M.2.1 pc = .ok (.istore i, 2)) (hp : pc + 2 = pc') (hn : i < M.2.2.1) (hc : zck ls i = true) (hs : ls.set i (some (.int x)) = ls') (k : At E M d Q pc' ls' st σ) : At E M d Q pc ls (.int x :: st) σ := by
  subst hp
  subst hs
  exact fun p e s m args below meth c H locs la hX hP hS hl => lv_istore hX.1 hX.2.1 hd hl hn rfl (fun la' hl' => k p e s m args below meth c H locs la' hX hP hS (zas_set1 hl' hc))
theorem z_istore_ng (pc' : Nat) {n : Fin 4} {x : Int32} {ls' : List (Option Value)} (hd : decode M.2.1 pc = .ok (.istore_n n, 1)) (hp : pc + 1 = pc') (hn : (n : Nat) < M.2.2.1) (hc : zck ls (n : Nat) = true) (hs : ls.set (n : Nat) (some (.int x)) = ls') (k : At E M d Q pc' ls' st σ) : At E M d Q pc ls (.int x :: st) σ := by
  subst hp
  subst hs
  exact fun p e s m args below meth c H locs la hX hP hS hl => lv_istore_n hX.1 hX.2.1 hd rfl hl hn rfl (fun la' hl' => k p e s m args below meth c H locs la' hX hP hS (zas_set1 hl' hc))
theorem z_astoreg (pc' : Nat) {i : Nat} {x : Nat} {ls' : List (Option Value)} (hd : decode M.2.1 pc = .ok (.astore i, 2)) (hp : pc + 2 = pc') (hn : i < M.2.2.1) (hc : zck ls i = true) (hs : ls.set i (some (zr E x)) = ls') (k : At E M d Q pc' ls' st σ) : At E M d Q pc ls (zr E x :: st) σ := by
  subst hp
  subst hs
  exact fun p e s m args below meth c H locs la hX hP hS hl => lv_astore hX.1 hX.2.1 hd hl hn rfl (fun la' hl' => k p e s m args below meth c H locs la' hX hP hS (zas_set1 hl' hc))
theorem z_astore_ng (pc' : Nat) {n : Fin 4} {x : Nat} {ls' : List (Option Value)} (hd : decode M.2.1 pc = .ok (.astore_n n, 1)) (hp : pc + 1 = pc') (hn : (n : Nat) < M.2.2.1) (hc : zck ls (n : Nat) = true) (hs : ls.set (n : Nat) (some (zr E x)) = ls') (k : At E M d Q pc' ls' st σ) : At E M d Q pc ls (zr E x :: st) σ := by
  subst hp
  subst hs
  exact fun p e s m args below meth c H locs la hX hP hS hl => lv_astore_n hX.1 hX.2.1 hd rfl hl hn rfl (fun la' hl' => k p e s m args below meth c H locs la' hX hP hS (zas_set1 hl' hc))
theorem z_lstoreg (pc' : Nat) {i : Nat} {x : Int64} {ls' : List (Option Value)} (hd : decode M.2.1 pc = .ok (.lstore i, 2)) (hp : pc + 2 = pc') (hn : i + 1 < M.2.2.1) (hc : zck ls i = true) (hs : (ls.set i (some (.long x))).set (i + 1) none = ls') (k : At E M d Q pc' ls' st σ) : At E M d Q pc ls (.long x :: st) σ := by
  subst hp
  subst hs
  exact fun p e s m args below meth c H locs la hX hP hS hl => lv_lstore hX.1 hX.2.1 hd hl hn rfl (fun la' hl' => k p e s m args below meth c H locs la' hX hP hS (zas_set2 hl' hc))
theorem z_lstore_ng (pc' : Nat) {n : Fin 4} {x : Int64} {ls' : List (Option Value)} (hd : decode M.2.1 pc = .ok (.lstore_n n, 1)) (hp : pc + 1 = pc') (hn : (n : Nat) + 1 < M.2.2.1) (hc : zck ls (n : Nat) = true) (hs : (ls.set (n : Nat) (some (.long x))).set ((n : Nat) + 1) none = ls') (k : At E M d Q pc' ls' st σ) : At E M d Q pc ls (.long x :: st) σ := by
  subst hp
  subst hs
  exact fun p e s m args below meth c H locs la hX hP hS hl => lv_lstore_n hX.1 hX.2.1 hd rfl hl hn rfl (fun la' hl' => k p e s m args below meth c H locs la' hX hP hS (zas_set2 hl' hc))
theorem z_iincg (pc' : Nat) {i : Nat} {n : Int} {x v : Int32} {ls' : List (Option Value)} (hd : decode M.2.1 pc = .ok (.iinc i n, 3)) (hp : pc + 3 = pc') (hi : ls[i]? = some (some (.int x))) (hv : x + Int32.ofInt n = v) (hn : i < M.2.2.1) (hc : zck ls i = true) (hs : ls.set i (some (.int v)) = ls') (k : At E M d Q pc' ls' st σ) : At E M d Q pc ls st σ := by
  subst hp
  subst hs
  intro p e s m args below meth c H locs la hX hP hS hl
  obtain ⟨j, hj⟩ := List.getElem?_of_mem (zas_mem.mpr ⟨Nat.zero_le i, hi⟩)
  exact lv_iinc hX.1 hX.2.1 hd hl hj hv hn rfl (fun la' hl' => k p e s m args below meth c H locs la' hX hP hS (zas_set1 hl' hc))
end Rows
