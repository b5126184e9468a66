/-! objects being made: the cells so far as a function of their numbers -/
abbrev zN : Type := Nat → va_E
def cW (E : zE) (w : zN) (N : Nat) : va_W := (List.range N).map (fun k => (E.2.1 + k, w k))
theorem cW_get (E : zE) (w : zN) {N k : Nat} (h : k < N) : (cW E w N)[k]? = some (E.2.1 + k, w k) := by
  unfold cW
  rw [List.getElem?_map, List.getElem?_range h]
  rfl
theorem cW_at {E : zE} {w : zN} {N i : Nat} {q : Nat × va_E} (h : (cW E w N)[i]? = some q) : i < N ∧ q = (E.2.1 + i, w i) := by
  have hl : i < N := by
    have := (List.getElem?_eq_some_iff.mp h).1
    simpa [cW] using this
  rw [cW_get E w hl] at h
  exact ⟨hl, (Option.some.inj h).symm⟩
theorem cW_D (E : zE) (w : zN) (N : Nat) : va_D (zA E) (cW E w N) := by
  refine ⟨fun i j p q hi hj hpq => ?_, fun k q hk => ?_⟩
  · obtain ⟨-, rfl⟩ := cW_at hi
    obtain ⟨-, rfl⟩ := cW_at hj
    simp at hpq
    omega
  · obtain ⟨-, rfl⟩ := cW_at hk
    exact Nat.le_add_right _ _
theorem zu_same {α : Type} (f : Nat → α) (i : Nat) (x : α) : zu f i x i = x := if_pos rfl
theorem zu_ne {α : Type} (f : Nat → α) {i j : Nat} (x : α) (h : j ≠ i) : zu f i x j = f j := if_neg h
theorem cW_set (E : zE) (w : zN) {N k : Nat} {c : va_E} (hk : k < N) : (cW E w N).set k (E.2.1 + k, c) = cW E (zu w k c) N := by
  apply List.ext_getElem?
  intro i
  rw [List.getElem?_set]
  by_cases hi : k = i
  · subst hi
    rw [if_pos rfl, if_pos (by simpa [cW] using hk), cW_get E _ hk, zu_same]
  · rw [if_neg hi]
    rcases Nat.lt_or_ge i N with q | q
    · rw [cW_get E w q, cW_get E _ q, zu_ne _ _ (fun h => hi h.symm)]
    · rw [List.getElem?_eq_none (by simpa [cW] using q), List.getElem?_eq_none (by simpa [cW] using q)]
theorem cW_push {E : zE} {w : zN} {N : Nat} {x : va_E} {H H1 : Heap} (hP : va_P (zD E) vwCl (cW E w N) H) (hz : H.size = E.2.1 + N) (o1 : ∀ q : Nat, q < E.2.1 + N → H1[q]? = H[q]?) (hx : va_at (zD E) vwCl (E.2.1 + N, x) H1) : va_P (zD E) vwCl (cW E (zu w N x) (N + 1)) H1 := by
  intro k q hk
  obtain ⟨hl, rfl⟩ := cW_at hk
  by_cases h : k = N
  · subst h
    rw [zu_same]
    exact hx
  · rw [zu_ne _ _ h]
    have hk' : k < N := by omega
    exact (hP k _ (cW_get E w hk')).kept (o1 _ (by show E.2.1 + k < E.2.1 + N; omega))
def zRn (d mc ms : Nat) : Room := { frames := d + 1, cells := mc, slots := ms, locals := 64 * (d + 1) }
/-- the classes of the rows of objects -/
def zAO (U : State) : Prop := va_AO RX7 U ∧ va_AO RX1 U ∧ va_AO RX4 U ∧ va_AO RX3 U
theorem zAO.moved {u U : State} (hvm : u.vm.Alike U.vm) (h : zAO u) : zAO U := ⟨h.1.moved hvm, h.2.1.moved hvm, h.2.2.1.moved hvm, h.2.2.2.moved hvm⟩
def bQ (E : zE) (Q : zN → Nat → Prop) : Array Value → State → Outcome → State → Prop := fun _ st oc t => (∃ (w : zN) (N : Nat), oc = .returned none ∧ Q w N ∧ va_P (zD E) vwCl (cW E w N) t.heap ∧ t.heap.size = E.2.1 + N) ∧ va_F (zA E) st t
def bP (E : zE) (av : List Value) (w : zN) (N : Nat) : Array Value → State → Prop := va_Pc av (fun U => va_P (zD E) vwCl (cW E w N) U.heap ∧ U.heap.size = E.2.1 + N ∧ va_K (zD E) vwCl (zT E) U ∧ zAO U)
def Bt (E : zE) (M : zY) (d mc ms : Nat) (Q : zN → Nat → Prop) (pc : Nat) (ls : List (Option Value)) (st : List Value) (w : zN) (N kc ks : Nat) : Prop :=
  ∀ (p : Program) (e : Env) (s : State) (m : MethodId) (args : Array Value) (below : List Frame) (meth : Method) (c : Code) (H : Heap) (locs : List Loc) (la : Array Slot), zX E M p s m args meth c → meth.name = "<init>" ∧ zAO s → va_P (zD E) vwCl (cW E w N) H → H.size = E.2.1 + N ∧ s.heap.size + kc = E.2.1 + N → va_S (zA E) s.heap H locs → lv_has la M.2.2.1 (zas 0 ls) →
    W p E.1 e (zRn d mc ms) s m args below meth c H locs kc ks (MQ below (bQ E Q) args s mc ms (zA E)) (F0 m pc la st)
def Rit (E : zE) (M : zY) (d : Nat) (av : List Value) (w : zN) (N : Nat) (Q : zN → Nat → Prop) (mc ms : Nat) : Prop := Met E.1 M.1 (zws M) (zRn d mc ms) (bP E av w N) (bQ E Q) mc ms (zA E)
theorem b_blind (E : zE) (av : List Value) (w : zN) (N : Nat) : FrameBlind (bP E av w N) := by
  intro a U g mk q
  obtain ⟨q0, qP, qz, qK, qO⟩ := q
  exact ⟨q0, qP, qz, va_K.moved (u := U) (U := U.calling g mk a) (Vm.Alike.refl U.vm) qK, zAO.moved (u := U) (U := U.calling g mk a) (Vm.Alike.refl U.vm) qO⟩
theorem Rit.of {E : zE} {M : zY} {d : Nat} {av : List Value} {w : zN} {N : Nat} {Q : zN → Nat → Prop} {mc ms : Nat} (ls : List (Option Value)) (hy : plainName M.1.cls = true) (hi : M.1.name = "<init>") (hn : (lg_sl av).length ≤ M.2.2.1) (hs : zas 0 ls = lv_args 0 av) (h : Bt E M d mc ms Q 0 ls [] w N 0 0) : Rit E M d av w N Q mc ms := by
  refine Met.ofW (cc := M.2.1) (maxL := M.2.2.1) (ret := M.2.2.2) (ws' := zTb) hy rfl ?_
  intro p e s m args below meth c s₁ B hml hv
  obtain ⟨rfl, hP, hz, hK, hO⟩ := hv
  have hts := atoms_spec (ws := zws M) B.pre
  have hl := lv_entry av (n := M.2.2.1) hn
  rw [lg_entry_eq]
  exact h p e s m _ below meth c s.heap [] _ ⟨B.exec, B.bytes, hml, B.returns, B.notSynchronized, findClass_of_methodNamed B.named, fun w hw => hts w (List.mem_cons_of_mem _ hw), hK⟩ ⟨(name_of_methodNamed B.named B.method).1.trans hi, hO⟩ hP ⟨hz, hz⟩ va_S.rf (by rw [hs]; exact hl)
theorem Rit.imp {E : zE} {M : zY} {d : Nat} {av : List Value} {w : zN} {N : Nat} {Q Q' : zN → Nat → Prop} {mc ms : Nat} (h : Rit E M d av w N Q mc ms) (hq : ∀ v τ, Q v τ → Q' v τ) : Rit E M d av w N Q' mc ms := by
  intro p e ha hc hk s m args below hf hs hP hT
  obtain ⟨t, o, a1, b1, b2, b3, b4⟩ := h p e ha hc hk s m args below hf hs hP hT
  obtain ⟨⟨v, τ, h1, h2, h3⟩, h4⟩ := b3
  exact ⟨t, o, a1, b1, b2, ⟨⟨v, τ, h1, hq v τ h2, h3⟩, h4⟩, b4⟩
/-- cells that are as good -/
def wle (E : zE) (N : Nat) (w w' : zN) : Prop := ∀ k, k < N → ∀ H : Heap, va_at (zD E) vwCl (E.2.1 + k, w k) H → va_at (zD E) vwCl (E.2.1 + k, w' k) H
theorem wle.P {E : zE} {N : Nat} {w w' : zN} (h : wle E N w w') {H : Heap} (hP : va_P (zD E) vwCl (cW E w N) H) : va_P (zD E) vwCl (cW E w' N) H := by
  intro k q hk
  obtain ⟨hl, rfl⟩ := cW_at hk
  exact h k hl H (hP k _ (cW_get E w hl))
theorem wle.eq {E : zE} {N : Nat} {w w' : zN} (h : ∀ k, k < N → w k = w' k) : wle E N w w' := fun k hk H hq => by rw [← h k hk]; exact hq
theorem W_size {p : Program} {l : Launch} {e : Env} {R : Room} {s : State} {m : MethodId} {args : Array Value} {below : List Frame} {meth : Method} {c : Code} {H : Heap} {locs : List Loc} {cells slots : Nat} {Q : State → Prop} {g : JFrame} (h : H.size ≤ s.heap.size + cells → W p l e R s m args below meth c H locs cells slots Q g) : W p l e R s m args below meth c H locs cells slots Q g := fun T hT X => h (by rw [← hT]; exact X.same.2.2.1) T hT X
theorem cW_lt {E : zE} {w : zN} {N : Nat} {H : Heap} (hP : va_P (zD E) vwCl (cW E w N) H) (h : 0 < N) : E.2.1 + N ≤ H.size := by
  have := (hP (N - 1) _ (cW_get E w (by omega))).lt
  have h2 : E.2.1 + (N - 1) < H.size := this
  omega
section MakeRows
variable {E : zE} {M : zY} {d mc ms : Nat} {Q : zN → Nat → Prop} {pc : Nat} {ls : List (Option Value)} {st : List Value} {w : zN} {N kc ks : Nat}
theorem b_le (w' : zN) (h : wle E N w w') (k : Bt E M d mc ms Q pc ls st w' N kc ks) : Bt E M d mc ms Q pc ls st w N kc ks := fun p e s m args below meth c H locs la hX hI hP hz hS hl => k p e s m args below meth c H locs la hX hI (h.P hP) hz hS hl
theorem b_iconst (pc' : Nat) {n : Int} {v : Int32} (hd : decode M.2.1 pc = .ok (.iconst n, 1)) (hp : pc + 1 = pc') (hv : Int32.ofInt n = v) (k : Bt E M d mc ms Q pc' ls (.int v :: st) w N kc ks) : Bt E M d mc ms Q pc ls st w N kc ks := by
  subst hp
  exact fun p e s m args below meth c H locs la hX hI hP hz hS hl => lv_iconst hX.1 hX.2.1 hd hv (k p e s m args below meth c H locs la hX hI hP hz hS hl)
theorem b_bipush (pc' : Nat) {n : Int} {v : Int32} (hd : decode M.2.1 pc = .ok (.bipush n, 2)) (hp : pc + 2 = pc') (hv : (Int8.ofInt n).toInt32 = v) (k : Bt E M d mc ms Q pc' ls (.int v :: st) w N kc ks) : Bt E M d mc ms Q pc ls st w N kc ks := by
  subst hp
  exact fun p e s m args below meth c H locs la hX hI hP hz hS hl => lv_bipush hX.1 hX.2.1 hd hv (k p e s m args below meth c H locs la hX hI hP hz hS hl)
theorem b_sipush (pc' : Nat) {n : Int} {v : Int32} (hd : decode M.2.1 pc = .ok (.sipush n, 3)) (hp : pc + 3 = pc') (hv : (Int16.ofInt n).toInt32 = v) (k : Bt E M d mc ms Q pc' ls (.int v :: st) w N kc ks) : Bt E M d mc ms Q pc ls st w N kc ks := by
  subst hp
  exact fun p e s m args below meth c H locs la hX hI hP hz hS hl => lv_sipush hX.1 hX.2.1 hd hv (k p e s m args below meth c H locs la hX hI hP hz hS hl)
theorem b_lconst (pc' : Nat) {n : Fin 2} {v : Int64} (hd : decode M.2.1 pc = .ok (.lconst n, 1)) (hp : pc + 1 = pc') (hv : Int64.ofNat (n : Nat) = v) (k : Bt E M d mc ms Q pc' ls (.long v :: st) w N kc ks) : Bt E M d mc ms Q pc ls st w N kc ks := by
  subst hp
  exact fun p e s m args below meth c H locs la hX hI hP hz hS hl => lv_lconst hX.1 hX.2.1 hd hv (k p e s m args below meth c H locs la hX hI hP hz hS hl)
theorem b_iload_n (pc' : Nat) {n : Fin 4} {x : Int32} (hd : decode M.2.1 pc = .ok (.iload_n n, 1)) (hp : pc + 1 = pc') (hi : ls[(n : Nat)]? = some (some (.int x))) (k : Bt E M d mc ms Q pc' ls (.int x :: st) w N kc ks) : Bt E M d mc ms Q pc ls st w N kc ks := by
  subst hp
  exact fun p e s m args below meth c H locs la hX hI hP hz hS hl => lv_iload_n hX.1 hX.2.1 hd rfl (zas_at hl hi) (k p e s m args below meth c H locs la hX hI hP hz hS hl)
theorem b_aload_n (pc' : Nat) {n : Fin 4} {x : Nat} (hd : decode M.2.1 pc = .ok (.aload_n n, 1)) (hp : pc + 1 = pc') (hi : ls[(n : Nat)]? = some (some (zr E x))) (k : Bt E M d mc ms Q pc' ls (zr E x :: st) w N kc ks) : Bt E M d mc ms Q pc ls st w N kc ks := by
  subst hp
  exact fun p e s m args below meth c H locs la hX hI hP hz hS hl => lv_aload_n hX.1 hX.2.1 hd rfl (zas_at hl hi) (k p e s m args below meth c H locs la hX hI hP hz hS hl)
theorem b_dup (pc' : Nat) {va : Value} (hd : decode M.2.1 pc = .ok (.dup, 1)) (hp : pc + 1 = pc') (hc : va.category = 1) (k : Bt E M d mc ms Q pc' ls (va :: va :: st) w N kc ks) : Bt E M d mc ms Q pc ls (va :: st) w N kc ks := by
  subst hp
  exact fun p e s m args below meth c H locs la hX hI hP hz hS hl => lv_dup hX.1 hX.2.1 hd hc (k p e s m args below meth c H locs la hX hI hP hz hS hl)
theorem b_goto (tgt : Nat) {off : Int} (hd : decode M.2.1 pc = .ok (.goto off, 3)) (ht : (pc : Int) + off = (tgt : Int)) (k : Bt E M d mc ms Q tgt ls st w N kc ks) : Bt E M d mc ms Q pc ls st w N kc ks := fun p e s m args below meth c H locs la hX hI hP hz hS hl => lv_goto hX.1 hX.2.1 hd ht (k p e s m args below meth c H locs la hX hI hP hz hS hl)
theorem b_icmp_ge (tgt pc' : Nat) {x y : Int32} {off : Int} (hd : decode M.2.1 pc = .ok (.if_icmp .ge off, 3)) (ht : (pc : Int) + off = (tgt : Int)) (hp : pc + 3 = pc') (kt : y ≤ x → Bt E M d mc ms Q tgt ls st w N kc ks) (kf : ¬ y ≤ x → Bt E M d mc ms Q pc' ls st w N kc ks) : Bt E M d mc ms Q pc ls (.int y :: .int x :: st) w N kc ks := by
  subst hp
  exact fun p e s m args below meth c H locs la hX hI hP hz hS hl => lv_icmp_ge hX.1 hX.2.1 hd ht (fun h => kt h p e s m args below meth c H locs la hX hI hP hz hS hl) (fun h => kf h p e s m args below meth c H locs la hX hI hP hz hS hl)
theorem b_istore_n (pc' : Nat) {n : Fin 4} {x : Int32} {ls' : List (Option Value)} (hd : decode M.2.1 pc = .ok (.istore_n n, 1)) (hp : pc + 1 = pc') (hn : (n : Nat) < M.2.2.1) (hc : zck ls (n : Nat) = true) (hs : ls.set (n : Nat) (some (.int x)) = ls') (k : Bt E M d mc ms Q pc' ls' st w N kc ks) : Bt E M d mc ms Q pc ls (.int x :: st) w N kc ks := by
  subst hp
  subst hs
  exact fun p e s m args below meth c H locs la hX hI hP hz hS hl => lv_istore_n hX.1 hX.2.1 hd rfl hl hn rfl (fun la' hl' => k p e s m args below meth c H locs la' hX hI hP hz hS (zas_set1 hl' hc))
theorem b_iinc (pc' : Nat) {i : Nat} {n : Int} {x v : Int32} {ls' : List (Option Value)} (hd : decode M.2.1 pc = .ok (.iinc i n, 3)) (hp : pc + 3 = pc') (hi : ls[i]? = some (some (.int x))) (hv : x + Int32.ofInt n = v) (hn : i < M.2.2.1) (hc : zck ls i = true) (hs : ls.set i (some (.int v)) = ls') (k : Bt E M d mc ms Q pc' ls' st w N kc ks) : Bt E M d mc ms Q pc ls st w N kc ks := by
  subst hp
  subst hs
  intro p e s m args below meth c H locs la hX hI hP hz hS hl
  obtain ⟨j, hj⟩ := List.getElem?_of_mem (zas_mem.mpr ⟨Nat.zero_le i, hi⟩)
  exact lv_iinc hX.1 hX.2.1 hd hl hj hv hn rfl (fun la' hl' => k p e s m args below meth c H locs la' hX hI hP hz hS (zas_set1 hl' hc))
theorem b_vret (hd : decode M.2.1 pc = .ok (.return_, 1)) (hr : M.2.2.2 = none) (h1 : kc ≤ mc) (h2 : ks ≤ ms) (hq : Q w N) : Bt E M d mc ms Q pc ls [] w N kc ks := by
  intro p e s m args below meth c H locs la hX hI hP hz hS hl
  refine W.widen (k := mc) (n := ms) h1 h2 ?_
  exact W.vret hX.1 hX.2.1 (hX.2.2.2.1.trans hr) (fun t ht hW => ⟨⟨w, N, rfl, hq, by rw [ht]; exact hP, by rw [ht]; exact hz.1⟩, hS.F ht⟩) hS.2.2 hd hX.2.2.2.2.1
theorem b_obj (pc' : Nat) {idx a : Nat} (hd : decode M.2.1 pc = .ok (.invokespecial idx, 3)) (hp : pc + 3 = pc') (hl : Cond.methodLink M.1.cls idx Lib.objectInit ∈ zTb) (hi : Cond.instanceMethod Lib.objectInit ∈ zTb) (hc : Cond.code Lib.objectInit ⟨#[0xb1]⟩ 1 none ∈ zTb) (k : Bt E M d mc ms Q pc' ls [] w N kc ks) : Bt E M d mc ms Q pc ls [zr E a] w N kc ks := by
  subst hp
  intro p e s m args below meth c H locs la hX hI hP hz hS hla
  have ht := hX.2.2.2.2.2.2.1
  refine W.objInit hX.1 hX.2.1 hX.2.2.2.2.2.1 (ht _ hl) (ht _ hi) (ht _ hc) rfl (by rw [hX.2.2.1]; exact hla.1) rfl hd (by show 1 ≤ d + 1; omega) (by
    show 2 * 0 + 0 + 12 ≤ 64 * (d + 1)
    omega) ?_
  exact k p e s m args below meth c H locs la hX hI hP hz hS hla
theorem b_get (pc' : Nat) {a ci j idx Nf : Nat} {T : u_T} {C ref : String} {v : Value} {fs : List Value} (hd : decode M.2.1 pc = .ok (.getfield idx, 3)) (hp : pc + 3 = pc') (ha : a < N) (he : w a = .inr (ci, fs)) (hcl : vwCl[ci]? = some (C, T, Nf)) (hin : ∀ w ∈ u_ws C T Nf, w ∈ zTb) (hj : j < Nf) (hl : Cond.fieldLink M.1.cls idx ref (T j).2.1 (T j).2.2.1 ∈ zTb) (hr : (T j).1 = ref) (hv : fs[j]? = some v)
    (k : Bt E M d mc ms Q pc' ls (v :: st) w N kc ks) : Bt E M d mc ms Q pc ls (zr E a :: st) w N kc ks := by
  subst hp
  intro p e s m args below meth c H locs la hX hI hP hz hS hla
  exact va_get hX.1 hX.2.1 hX.2.2.2.2.2.2.1 hin hX.2.2.2.2.2.1 hX.2.2.2.2.2.2.2 hP a ((cW_get E w ha).trans (by rw [he])) hcl j hj (hX.2.2.2.2.2.2.1 _ hl) (fun x hx => by rw [← hr]; exact hx) hv hd (k p e s m args below meth c H locs la hX hI hP hz hS hla)
theorem b_putF (pc' : Nat) {a ci j idx Nf : Nat} {T : u_T} {C ref : String} {v : Value} {ty : FieldType} {fs : List Value} (ty0 : Nat → FieldType) (hty : ∀ k, k < Nf → parseFieldDescriptor (T k).2.2.1 = some (ty0 k)) (hnm : ∀ a, a < Nf → ∀ b, b < Nf → a ≠ b → (T a).2.1 ≠ (T b).2.1) (hd : decode M.2.1 pc = .ok (.putfield idx, 3)) (hp : pc + 3 = pc') (ha : a < N) (he : w a = .inr (ci, fs)) (hcl : vwCl[ci]? = some (C, T, Nf)) (hin : ∀ w ∈ u_ws C T Nf, w ∈ zTb) (hj : j < Nf) (hl : Cond.fieldLink M.1.cls idx ref (T j).2.1 (T j).2.2.1 ∈ zTb) (hr : (T j).1 = ref) (hfin : (T j).2.2.2 = true) (hdecl : (T j).1 = M.1.cls) (hpd : parseFieldDescriptor (T j).2.2.1 = some ty) (hn : narrow ty v = v) (hfit : fits ty v = true) (hlen : j < fs.length)
    (k : Bt E M d mc ms Q pc' ls st (zu w a (.inr (ci, fs.set j v))) N kc ks) : Bt E M d mc ms Q pc ls (v :: zr E a :: st) w N kc ks := by
  subst hp
  intro p e s m args below meth c H locs la hX hI hP hz hS hla
  refine va_putF hX.1 hX.2.1 hX.2.2.2.2.2.2.1 hin ty0 hty hnm hX.2.2.2.2.2.1 hX.2.2.2.2.2.2.2 hP (cW_D E w N) hS a ((cW_get E w ha).trans (by rw [he])) hcl j hj (hX.2.2.2.2.2.2.1 _ hl) (fun x hx => by rw [← hr]; exact hx) hfin hI.1 hdecl hpd hn hfit hlen hd (fun H1 locs1 hP1 hD1 hS1 => ?_)
  rw [cW_set E w ha] at hP1
  refine W_size fun hle => ?_
  have hge := cW_lt hP1 (by omega)
  exact k p e s m args below meth c H1 locs1 la hX hI hP1 ⟨by omega, hz.2⟩ hS1 hla
theorem b_put (pc' : Nat) {a ci j idx Nf : Nat} {T : u_T} {C ref : String} {v : Value} {ty : FieldType} {fs : List Value} (ty0 : Nat → FieldType) (hty : ∀ k, k < Nf → parseFieldDescriptor (T k).2.2.1 = some (ty0 k)) (hnm : ∀ a, a < Nf → ∀ b, b < Nf → a ≠ b → (T a).2.1 ≠ (T b).2.1) (hd : decode M.2.1 pc = .ok (.putfield idx, 3)) (hp : pc + 3 = pc') (ha : a < N) (he : w a = .inr (ci, fs)) (hcl : vwCl[ci]? = some (C, T, Nf)) (hin : ∀ w ∈ u_ws C T Nf, w ∈ zTb) (hj : j < Nf) (hl : Cond.fieldLink M.1.cls idx ref (T j).2.1 (T j).2.2.1 ∈ zTb) (hr : (T j).1 = ref) (hfin : (T j).2.2.2 = false) (hpd : parseFieldDescriptor (T j).2.2.1 = some ty) (hn : narrow ty v = v) (hfit : fits ty v = true) (hlen : j < fs.length)
    (k : Bt E M d mc ms Q pc' ls st (zu w a (.inr (ci, fs.set j v))) N kc ks) : Bt E M d mc ms Q pc ls (v :: zr E a :: st) w N kc ks := by
  subst hp
  intro p e s m args below meth c H locs la hX hI hP hz hS hla
  refine va_put hX.1 hX.2.1 hX.2.2.2.2.2.2.1 hin ty0 hty hnm hX.2.2.2.2.2.1 hX.2.2.2.2.2.2.2 hP (cW_D E w N) hS a ((cW_get E w ha).trans (by rw [he])) hcl j hj (hX.2.2.2.2.2.2.1 _ hl) (fun x hx => by rw [← hr]; exact hx) hfin hpd hn hfit hlen hd (fun H1 locs1 hP1 hD1 hS1 => ?_)
  rw [cW_set E w ha] at hP1
  refine W_size fun hle => ?_
  have hge := cW_lt hP1 (by omega)
  exact k p e s m args below meth c H1 locs1 la hX hI hP1 ⟨by omega, hz.2⟩ hS1 hla
theorem b_iast (pc' : Nat) {a n : Nat} {i x : Int32} {f : Nat → Int32} (hd : decode M.2.1 pc = .ok (.iastore, 1)) (hp : pc + 1 = pc') (ha : a < N) (he : w a = .inl (E.2.2.2.2 0, n, .inl f)) (hi : vp_in i n) (k : Bt E M d mc ms Q pc' ls st (zu w a (.inl (E.2.2.2.2 0, n, .inl (upd f i.toNatClampNeg x)))) N kc ks) : Bt E M d mc ms Q pc ls (.int x :: .int i :: zr E a :: st) w N kc ks := by
  subst hp
  intro p e s m args below meth c H locs la hX hI hP hz hS hla
  refine va_iast hX.1 hX.2.1 hX.2.2.2.2.2.2.2 hP (cW_D E w N) hS a 0 ((cW_get E w ha).trans (by rw [he])) rfl hi hd (fun H1 locs1 hP1 hD1 hS1 => ?_)
  rw [cW_set E w ha] at hP1
  refine W_size fun hle => ?_
  have hge := cW_lt hP1 (by omega)
  exact k p e s m args below meth c H1 locs1 la hX hI hP1 ⟨by omega, hz.2⟩ hS1 hla
theorem b_aast (pc' : Nat) {a b n t ci : Nat} {i : Int32} {r : vw_C} {vs : List Value} {f : Nat → Option Nat} (hd : decode M.2.1 pc = .ok (.aastore, 1)) (hp : pc + 1 = pc') (ha : a < N) (he : w a = .inl (E.2.2.2.2 t, n, .inr (.inr (.inr (.inr f))))) (ht : (zT E)[t]? = some (E.2.2.2.2 t, .object r.1)) (hb : b < N) (hv : w b = .inr (ci, vs)) (hc : vwCl[ci]? = some r) (hi : vp_in i n) (k : Bt E M d mc ms Q pc' ls st (zu w a (.inl (E.2.2.2.2 t, n, .inr (.inr (.inr (.inr (va_up f i.toNatClampNeg (some (E.2.1 + b)))))))) ) N kc ks) : Bt E M d mc ms Q pc ls (zr E b :: .int i :: zr E a :: st) w N kc ks := by
  subst hp
  intro p e s m args below meth c H locs la hX hI hP hz hS hla
  refine va_astq hX.1 hX.2.1 hX.2.2.2.2.2.2.2 hP (cW_D E w N) hS a t b ci ((cW_get E w ha).trans (by rw [he])) ht ((cW_get E w hb).trans (by rw [hv])) hc hi hd (fun H1 locs1 hP1 hD1 hS1 => ?_)
  rw [cW_set E w ha] at hP1
  refine W_size fun hle => ?_
  have hge := cW_lt hP1 (by omega)
  exact k p e s m args below meth c H1 locs1 la hX hI hP1 ⟨by omega, hz.2⟩ hS1 hla
theorem b_aald (pc' : Nat) {a n t x : Nat} {C : String} {i : Int32} {f : Nat → Option Nat} (hd : decode M.2.1 pc = .ok (.aaload, 1)) (hp : pc + 1 = pc') (ha : a < N) (he : w a = .inl (E.2.2.2.2 t, n, .inr (.inr (.inr (.inr f))))) (ht : (zT E)[t]? = some (E.2.2.2.2 t, .object C)) (hi : vp_in i n) (hx : f i.toNatClampNeg = some (E.2.1 + x)) (k : Bt E M d mc ms Q pc' ls (zr E x :: st) w N kc ks) : Bt E M d mc ms Q pc ls (.int i :: zr E a :: st) w N kc ks := by
  subst hp
  intro p e s m args below meth c H locs la hX hI hP hz hS hla
  refine va_aldq hX.1 hX.2.1 hX.2.2.2.2.2.2.2 hP a t ((cW_get E w ha).trans (by rw [he])) ht hi hd ?_
  rw [hx]
  exact k p e s m args below meth c H locs la hX hI hP hz hS hla
theorem b_newa (pc' : Nat) {at0 : ArrayType} {ty : FieldType} {t n : Nat} {i : Int32} {a0 : vp_A} (hd : decode M.2.1 pc = .ok (.newarray at0, 2)) (hp : pc + 2 = pc') (hty : newarray.typeOf at0 = ty) (ht : (zT E)[t]? = some (E.2.2.2.2 t, ty)) (hRA : ∀ (U : State) (cA : ClassId), va_RA U cA ty → U.vm.findClass ("[" ++ ty.toString) = some cA) (hw : Cond.arrayClass ty ∈ zTb) (ha : ∀ cA : ClassId, vp_cell cA a0 = arrV cA n (fun _ => defaultValue ty)) (hi : ¬ i < 0) (hn : i.toNatClampNeg = n) (hby : n * componentBytes ty ≤ 536870912) (h1 : kc + 1 ≤ mc) (h2 : ks + n ≤ ms)
    (k : Bt E M d mc ms Q pc' ls (zr E N :: st) (zu w N (.inl (E.2.2.2.2 t, a0))) (N + 1) (kc + 1) (ks + n)) : Bt E M d mc ms Q pc ls (.int i :: st) w N kc ks := by
  subst hp
  subst hty
  intro p e s m args below meth c H locs la hX hI hP hz hS hla
  refine va_newaK hX.1 hX.2.1 (hX.2.2.2.2.2.2.1 _ hw) rfl hd rfl hi hn hby h1 h2 rfl fun H1 cA e1 z1 o1 hAr hNm => ?_
  have hcA : cA = E.2.2.2.2 t := Option.some.inj (hNm.symm.trans (hRA s _ (hX.2.2.2.2.2.2.2.2 t _ ht).2))
  subst hcA
  have hzz := hz.1
  have hP1 := cW_push (x := .inl (E.2.2.2.2 t, a0)) hP hz.1 (fun q hq => o1 q (by rw [hzz]; exact hq)) (by
    show H1[E.2.1 + N]? = some (vp_cell _ _)
    rw [ha, ← hzz]
    exact e1)
  have hk := k p e s m args below meth c H1 locs la hX hI hP1 ⟨by omega, by omega⟩ ⟨Nat.le_trans hS.1 (by omega), fun x h1 h2 => (o1 x (Nat.lt_of_lt_of_le h1 hS.1)).trans (hS.2.1 x h1 h2), hS.2.2⟩ hla
  rw [hzz]
  exact hk
theorem b_anew (pc' : Nat) {idx t n : Nat} {C : String} {i : Int32} (hd : decode M.2.1 pc = .ok (.anewarray idx, 3)) (hp : pc + 3 = pc') (hl : Cond.classLink M.1.cls idx C ∈ zTb) (hO : ∀ U, zAO U → va_AO C U) (ht : (zT E)[t]? = some (E.2.2.2.2 t, .object C)) (hi : ¬ i < 0) (hn : i.toNatClampNeg = n) (hby : n * 4 ≤ 536870912) (h1 : kc + 1 ≤ mc) (h2 : ks + n ≤ ms)
    (k : Bt E M d mc ms Q pc' ls (zr E N :: st) (zu w N (.inl (E.2.2.2.2 t, n, .inr (.inr (.inr (.inr (fun _ => none))))))) (N + 1) (kc + 1) (ks + n)) : Bt E M d mc ms Q pc ls (.int i :: st) w N kc ks := by
  subst hp
  subst hn
  intro p e s m args below meth c H locs la hX hI hP hz hS hla
  refine W.anew hX.1 hX.2.1 hX.2.2.2.2.2.1 (hX.2.2.2.2.2.2.1 _ hl) (va_AO.use (hO s hI.2)) rfl hd rfl hi hby h1 h2 fun cA kA comp f1 f2 f3 f4 => ?_
  obtain ⟨_, _, _, _, _, g5⟩ := (hX.2.2.2.2.2.2.2.2 t _ ht).2
  have hcA : cA = E.2.2.2.2 t := Option.some.inj (f1.symm.trans g5)
  subst hcA
  have hzz := hz.1
  generalize hH1 : H.push ({ cls := E.2.2.2.2 t, slots := Array.replicate i.toNatClampNeg .null, vm := .none } : Cell) = H1
  have z1 : H1.size = H.size + 1 := by rw [← hH1, Array.size_push]
  have o1 : ∀ q : Nat, q < H.size → H1[q]? = H[q]? := fun q hq => by rw [← hH1, Array.getElem?_push, if_neg (Nat.ne_of_lt hq)]
  have hP1 := cW_push (x := .inl (E.2.2.2.2 t, i.toNatClampNeg, .inr (.inr (.inr (.inr (fun _ => none)))))) hP hz.1 (fun q hq => o1 q (by rw [hzz]; exact hq)) (by
    show H1[E.2.1 + N]? = some (vp_cell _ _)
    rw [vp_cell_q, ← hzz, ← hH1, Array.getElem?_push_size, arrV_new]
    rfl)
  have hk := k p e s m args below meth c H1 locs la hX hI hP1 ⟨by omega, by omega⟩ ⟨Nat.le_trans hS.1 (by omega), fun x h1 h2 => (o1 x (Nat.lt_of_lt_of_le h1 hS.1)).trans (hS.2.1 x h1 h2), hS.2.2⟩ hla
  rw [hzz]
  exact hk
def dV (ty : Nat → FieldType) (n : Nat) : List Value := (List.range n).map (fun j => defaultValue (ty j))
theorem dV_at {ty : Nat → FieldType} {n j : Nat} (h : j < n) : vp_V (dV ty n) j = defaultValue (ty j) := by
  unfold vp_V dV
  rw [List.getD_eq_getElem?_getD, List.getElem?_map, List.getElem?_range h]
  rfl
theorem b_new (pc' : Nat) {idx ci Nf : Nat} {T : u_T} {C : String} (ty : Nat → FieldType) {fs : List Value} (hty : ∀ k, k < Nf → parseFieldDescriptor (T k).2.2.1 = some (ty k)) (hd : decode M.2.1 pc = .ok (.new idx, 3)) (hp : pc + 3 = pc') (hcl : vwCl[ci]? = some (C, T, Nf)) (hin : ∀ w ∈ u_ws C T Nf, w ∈ zTb) (hl : Cond.classLink M.1.cls idx C ∈ zTb) (hi : Cond.instantiable C Nf ∈ zTb) (hini : Cond.initialized C ∈ zTb) (hfs : dV ty Nf = fs) (h1 : kc + 1 ≤ mc) (h2 : ks + Nf ≤ ms)
    (k : Bt E M d mc ms Q pc' ls (zr E N :: st) (zu w N (.inr (ci, fs))) (N + 1) (kc + 1) (ks + Nf)) : Bt E M d mc ms Q pc ls st w N kc ks := by
  subst hp
  subst hfs
  intro p e s m args below meth c H locs la hX hI hP hz hS hla
  have hts := hX.2.2.2.2.2.2.1
  have hKn := hX.2.2.2.2.2.2.2.1 ci _ hcl
  refine W.newcK hX.1 hX.2.1 hX.2.2.2.2.2.1 (hts _ hl) (hts _ hi) (hts _ hini) rfl hd h1 h2 hKn.2.1 rfl fun H1 kC hkC e1 z1 o1 => ?_
  have hzz := hz.1
  have hP1 := cW_push (x := .inr (ci, dV ty Nf)) hP hz.1 (fun q hq => o1 q (by rw [hzz]; exact hq)) (by
    rw [hzz] at e1
    exact ⟨_, hcl, (u_born ty hts hin hKn hkC e1 hty).to (fun j hj => (dV_at hj).symm)⟩)
  have hk := k p e s m args below meth c H1 locs la hX hI hP1 ⟨by omega, by omega⟩ ⟨Nat.le_trans hS.1 (by omega), fun x h1 h2 => (o1 x (Nat.lt_of_lt_of_le h1 hS.1)).trans (hS.2.1 x h1 h2), hS.2.2⟩ hla
  rw [hzz]
  exact hk
theorem b_mmax (pc' : Nat) {idx : Nat} {x y : Int32} (hd : decode M.2.1 pc = .ok (.invokestatic idx, 3)) (hp : pc + 3 = pc') (hl : Cond.methodLink M.1.cls idx Lib.Math.max.name ∈ zTb) (hs : Cond.static Lib.Math.max.name ∈ zTb) (hi : Cond.initialized "java/lang/Math" ∈ zTb) (hc : Cond.code Lib.Math.max.name Lib.Math.max.code 2 (some .int) ∈ zTb) (hst : (st.map fun v => v.category).sum ≤ 40) (h1 : kc ≤ mc) (h2 : ks ≤ ms) (k : Bt E M d mc ms Q pc' ls (.int (if x < y then y else x) :: st) w N kc ks) : Bt E M d mc ms Q pc ls (.int y :: .int x :: st) w N kc ks := by
  subst hp
  intro p e s m args below meth c H locs la hX hI hP hz hS hla
  have ht := hX.2.2.2.2.2.2.1
  exact va_mmax hX.1 hX.2.1 (hX.2.2.1.trans hla.1.symm) hX.2.2.2.2.2.1 (ht _ hl) (ht _ hs) (ht _ hi) (ht _ hc) (by show 1 ≤ d + 1; omega) (by show _ ≤ 64 * (d + 1); omega) h1 h2 hd (k p e s m args below meth c H locs la hX hI hP hz hS hla)
/-- behind a call of a constructor -/
theorem b_after {p : Program} {e : Env} {s : State} {m : MethodId} {args : Array Value} {below : List Frame} {meth : Method} {c : Code} {H : Heap} {locs : List Loc} {la : Array Slot} {R : Room} {Z : State → Prop} {Q' : zN → Nat → Prop} {st0 rest : List Value} {a : Array Value} {H0 : Heap} {mc' ms' : Nat}
    (hr : va_Run p E.1 e R s m args below meth c H locs kc ks mc' ms' (F0 m pc la st0) rest (bQ E Q' a) (zA E)) (hS : va_S (zA E) H0 H locs)
    (kk : ∀ (w' : zN) (N' : Nat) (H1 : Heap) (locs1 : List Loc), Q' w' N' → va_P (zD E) vwCl (cW E w' N') H1 → H1.size = E.2.1 + N' → va_S (zA E) H0 H1 locs1 → W p E.1 e R s m args below meth c H1 locs1 (kc + mc') (ks + ms') Z (F0 m (pc + 3) la rest)) : W p E.1 e R s m args below meth c H locs kc ks Z (F0 m pc la st0) := by
  intro T hT X
  obtain ⟨v, st₀, t, T', L, h0, X', hL, e1, e2, ⟨⟨w', N', hv, hq, hP, hz'⟩, hz, hk⟩, stp⟩ := hr T hT X
  cases hv
  rw [h0] at hz hk
  obtain ⟨t2, a1, b1⟩ := kk w' N' T'.heap (locs ++ L) hq (by rw [e1]; exact hP) (by rw [e1]; exact hz')
    ⟨Nat.le_trans hS.1 (by rw [e1]; exact hz), fun q h1 h2 => by rw [e1, hk q (Nat.lt_of_lt_of_le h1 hS.1) h2]; exact hS.2.1 q h1 h2, fun q hq => by
      rcases List.mem_append.mp hq with h | h
      · exact hS.2.2 q h
      · exact hL q h⟩ T' rfl X'
  exact ⟨t2, stp t2 a1, b1⟩
def zCalI (M : zY) (n : Nat) : Prop := zCal M n ∧ M.1.name = "<init>" ∧ Cond.instanceMethod M.1 ∈ zTb ∧ M.2.2.2 = none
theorem z_mem0 {M' : zY} (h : M'.2.2.2 = none) : Cond.code M'.1 M'.2.1 M'.2.2.1 none ∈ zws M' := by
  unfold zws
  rw [h]
  exact List.mem_cons_self
theorem b_callI (pc' : Nat) {M' : zY} {idx n a mc' ms' : Nat} {As rest : List Value} {Q' : zN → Nat → Prop} (hR : Rit E M' d (zr E a :: As) w N Q' mc' ms') (hc : zCalI M' n) (hd : decode M.2.1 pc = .ok (.invokespecial idx, 3)) (hp : pc + 3 = pc') (hl : Cond.methodLink M.1.cls idx M'.1 ∈ zTb) (hn : As.length = n) (hst : st = As.reverse ++ zr E a :: rest) (hw : (rest.map fun v => v.category).sum ≤ 8) (h1 : kc + mc' ≤ mc) (h2 : ks + ms' ≤ ms) (hN : ∀ w' N', Q' w' N' → N' = N + mc')
    (k : ∀ (w' : zN), Q' w' (N + mc') → Bt E M (d + 1) mc ms Q pc' ls rest w' (N + mc') (kc + mc') (ks + ms')) : Bt E M (d + 1) mc ms Q pc ls st w N kc ks := by
  subst hp
  intro p e s m args below meth c H locs la hX hI hP hz hS hla
  obtain ⟨⟨c1, c2, c3, c4, c5⟩, c6, c7, c8⟩ := hc
  have ht := hX.2.2.2.2.2.2.1
  refine b_after (st0 := st) (rest := rest) (va_runI (Ts := zTb) (As := As) (b := E.2.1 + a) (n := n) (bytes := M'.2.1) (maxL := M'.2.2.1) ⟨hX.1, hX.2.1, hX.2.2.1, hX.2.2.2.2.2.1, ht⟩ hR ⟨⟨rfl, rfl, Nat.le_refl _, by show 8 + (M'.2.2.1 + 11) + 64 * (d + 1) ≤ 64 * (d + 1 + 1); omega, z_pay' c1 ht, z_mem0 c8, by rw [← c8]; exact ht _ c1, ht _ c2, c3, fun sig h => by rw [h] at c4; exact (Option.some.inj c4).symm, ht _ hl⟩, c6, ht _ c7⟩ ⟨b_blind _ _ _ _, fun U hU hW => ⟨rfl, by rw [hU]; exact hP, by rw [hU]; exact hz.1, va_K.moved hW.alike hX.2.2.2.2.2.2.2, hI.2.moved hW.alike⟩⟩ rfl hn hla.1 hst (lv_room hw) hd ⟨h1, h2⟩) hS (fun w' N' H1 locs1 hq hP1 hz1 hS1 => ?_)
  obtain rfl := hN w' N' hq
  exact k w' hq p e s m args below meth c H1 locs1 la hX hI hP1 ⟨hz1, by omega⟩ hS1 hla
theorem b_callIN (pc' : Nat) {M' : zY} {idx n a mc' ms' : Nat} {host : String} {As rest : List Value} {Q' : zN → Nat → Prop} (hR : Rit E M' d (zr E a :: As) w N Q' mc' ms') (hc : zCalI M' n) (hd : decode M.2.1 pc = .ok (.invokespecial idx, 3)) (hp : pc + 3 = pc') (hl : Cond.methodLinkNest M.1.cls idx M'.1 host ∈ zTb) (hn : As.length = n) (hst : st = As.reverse ++ zr E a :: rest) (hw : (rest.map fun v => v.category).sum ≤ 8) (h1 : kc + mc' ≤ mc) (h2 : ks + ms' ≤ ms) (hN : ∀ w' N', Q' w' N' → N' = N + mc')
    (k : ∀ (w' : zN), Q' w' (N + mc') → Bt E M (d + 1) mc ms Q pc' ls rest w' (N + mc') (kc + mc') (ks + ms')) : Bt E M (d + 1) mc ms Q pc ls st w N kc ks := by
  subst hp
  intro p e s m args below meth c H locs la hX hI hP hz hS hla
  obtain ⟨⟨c1, c2, c3, c4, c5⟩, c6, c7, c8⟩ := hc
  have ht := hX.2.2.2.2.2.2.1
  refine b_after (st0 := st) (rest := rest) (va_runIN (Ts := zTb) (As := As) (b := E.2.1 + a) (n := n) (host := host) (bytes := M'.2.1) (maxL := M'.2.2.1) ⟨hX.1, hX.2.1, hX.2.2.1, hX.2.2.2.2.2.1, ht⟩ hR ⟨⟨⟨rfl, rfl, Nat.le_refl _, by show 8 + (M'.2.2.1 + 11) + 64 * (d + 1) ≤ 64 * (d + 1 + 1); omega, z_pay' c1 ht, z_mem0 c8⟩, by rw [← c8]; exact ht _ c1, ht _ c2, c3, fun sig h => by rw [h] at c4; exact (Option.some.inj c4).symm, ht _ hl⟩, c6, ht _ c7⟩ ⟨b_blind _ _ _ _, fun U hU hW => ⟨rfl, by rw [hU]; exact hP, by rw [hU]; exact hz.1, va_K.moved hW.alike hX.2.2.2.2.2.2.2, hI.2.moved hW.alike⟩⟩ rfl hn hla.1 hst (lv_room hw) hd ⟨h1, h2⟩) hS (fun w' N' H1 locs1 hq hP1 hz1 hS1 => ?_)
  obtain rfl := hN w' N' hq
  exact k w' hq p e s m args below meth c H1 locs1 la hX hI hP1 ⟨hz1, by omega⟩ hS1 hla
end MakeRows
