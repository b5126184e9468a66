/-! THE CLAIM OUT OF ONE WALK OF THE LAW'S BODY. Your part is whole_start (and what it stands on); all else here is the same for every law, but numbers. -/
def R_law : String := "PadRoundLaw"
def lw_P (b : Addr) (xs : List Int32) (args : Array Value) (s : State) : Prop := args = #[.ref b] ∧ s.IntsAt b xs ∧ xs.length ≤ 3072 ∧ (Jvm.Cond.and given_1 narrow_1).before args s = true
def lw_Q (_ : Array Value) (s : State) (o : Outcome) (t : State) : Prop := o = .returned (some (.int 1)) ∧ Framed s o t [] 600000 7302250
def lw_Z (below : List Frame) (a : Array Value) (s : State) : State → Prop := fun t => ∃ o, t.status = .running ∧ Ended t below o ∧ lw_Q a s o t
/-- the law's own end, with 1 on the stack, nothing written that was there before, its room as the claim has it -/
theorem lw_ret {p : Program} {l : Launch} {e : Env} {s : State} {m : MethodId} {below : List Frame} {meth : Method} {c : Code} {b : Nat} (hx : p.tables.exec = Jvm.exec) (hb : c.code = code) (hr : meth.sig.returnType = ret) (hlocks : meth.locks = false) {pc : Nat} {H : Heap} {ls : Array Slot} (hdg : decode code pc = .ok (.ireturn, 1)) : W p l e room_1 s m #[Value.ref b] below meth c H [] 600000 7302250 (lw_Z below #[Value.ref b] s) (F0 m pc ls [.int 1]) := by
  intro T hT X
  obtain ⟨fs, hret, hrun, hended, hW, hframe⟩ := X.leave (v := some (.int 1)) (hlocks := hlocks) (fun h => by rw [hr] at h; cases h)
  have hmeth' : T.vm.method? m = some meth := X.method'
  refine ⟨T.setFrames fs, ?_, .returned (some (.int 1)), hrun, hended, rfl, ⟨_, rfl⟩, hW, hframe⟩
  jvm_step X.here [X.here.top, hx, hb, hdg, hmeth', hr, ret, narrow_b1]
  (try refine ⟨rfl, ?_⟩); (try refine ⟨rfl, ?_⟩)
  first | (intro acts; rw [hret _ acts rfl rfl rfl]) | rw [hret _ _ rfl rfl rfl]
  exact Steps.refl _
/-- what holds at the law's entry: the machine, the code, the tables' words (any of lw_tbl by 'hts w (by decide +kernel)'), the script of L ints xs at the cell b, what the Statement gives of the start (any of its parts by flat_of_before) -/
def lw_At (p : Program) (s : State) (m : MethodId) (meth : Method) (c : Code) (b L : Nat) (xs : Nat → Int32) : Prop :=
  p.tables.exec = Jvm.exec ∧ c.code = code ∧ meth.sig.returnType = ret ∧ c.maxLocals = 4 ∧ s.vm.findClass R_law = some m.cls ∧ (∀ w ∈ lw_tbl, w.before #[Value.ref b] s = true) ∧ va_X b L xs s s.heap ∧ b < s.heap.size ∧ meth.locks = false ∧ (Jvm.Cond.and given_1 narrow_1).before #[Value.ref b] s = true
/-! the law's walk -/
def LX (E : zE) (b L : Nat) (xs : Nat → Int32) (p : Program) (s : State) (m : MethodId) (meth : Method) (c : Code) : Prop := lw_At p s m meth c b L xs ∧ s.heap.size = E.2.1 ∧ va_K (zD E) vwCl (zT E) s
def Lw (E : zE) (b L : Nat) (xs : Nat → Int32) (pc : Nat) (ls : List (Option Value)) (st : List Value) (σ : zM) : Prop :=
  ∀ (p : Program) (e : Env) (s : State) (m : MethodId) (below : List Frame) (meth : Method) (c : Code) (H : Heap) (locs : List Loc) (la : Array Slot), LX E b L xs p s m meth c → va_P (zD E) vwCl (zW E σ) H → va_S (zA E) s.heap H locs → lv_has la 4 (zas 0 ls) →
    W p E.1 e room_1 s m #[Value.ref b] below meth c H locs 125 6832 (lw_Z below #[Value.ref b] s) (F0 m pc la st)
abbrev lsL (E : zE) (b i : Nat) : List (Option Value) := [some (.ref b), some (zr E 0), some (zr E 102), some (.int (nI i))]
section LawRows
variable {E : zE} {b L : Nat} {xs : Nat → Int32} {pc : Nat} {ls : List (Option Value)} {st : List Value} {σ : zM}
theorem w_iconst (pc' : Nat) {n : Int} {v : Int32} (hd : decode cL_law pc = .ok (.iconst n, 1)) (hp : pc + 1 = pc') (hv : Int32.ofInt n = v) (k : Lw E b L xs pc' ls (.int v :: st) σ) : Lw E b L xs pc ls st σ := by
  subst hp
  exact fun p e s m below meth c H locs la hX hP hS hl => lv_iconst hX.1.1 hX.1.2.1 hd hv (k p e s m below meth c H locs la hX hP hS hl)
theorem w_bipush (pc' : Nat) {n : Int} {v : Int32} (hd : decode cL_law pc = .ok (.bipush n, 2)) (hp : pc + 2 = pc') (hv : (Int8.ofInt n).toInt32 = v) (k : Lw E b L xs pc' ls (.int v :: st) σ) : Lw E b L xs pc ls st σ := by
  subst hp
  exact fun p e s m below meth c H locs la hX hP hS hl => lv_bipush hX.1.1 hX.1.2.1 hd hv (k p e s m below meth c H locs la hX hP hS hl)
theorem w_iload_n (pc' : Nat) {n : Fin 4} {x : Int32} (hd : decode cL_law pc = .ok (.iload_n n, 1)) (hp : pc + 1 = pc') (hi : ls[(n : Nat)]? = some (some (.int x))) (k : Lw E b L xs pc' ls (.int x :: st) σ) : Lw E b L xs pc ls st σ := by
  subst hp
  exact fun p e s m below meth c H locs la hX hP hS hl => lv_iload_n hX.1.1 hX.1.2.1 hd rfl (zas_at hl hi) (k p e s m below meth c H locs la hX hP hS hl)
theorem w_aload_n (pc' : Nat) {n : Fin 4} {x : Nat} (hd : decode cL_law pc = .ok (.aload_n n, 1)) (hp : pc + 1 = pc') (hi : ls[(n : Nat)]? = some (some (.ref x))) (k : Lw E b L xs pc' ls (.ref x :: st) σ) : Lw E b L xs pc ls st σ := by
  subst hp
  exact fun p e s m below meth c H locs la hX hP hS hl => lv_aload_n hX.1.1 hX.1.2.1 hd rfl (zas_at hl hi) (k p e s m below meth c H locs la hX hP hS hl)
theorem w_iadd (pc' : Nat) {x y : Int32} (hd : decode cL_law pc = .ok (.iadd, 1)) (hp : pc + 1 = pc') (k : Lw E b L xs pc' ls (.int (x + y) :: st) σ) : Lw E b L xs pc ls (.int y :: .int x :: st) σ := by
  subst hp
  exact fun p e s m below meth c H locs la hX hP hS hl => lv_iadd hX.1.1 hX.1.2.1 hd (k p e s m below meth c H locs la hX hP hS hl)
theorem w_isub (pc' : Nat) {x y : Int32} (hd : decode cL_law pc = .ok (.isub, 1)) (hp : pc + 1 = pc') (k : Lw E b L xs pc' ls (.int (x - y) :: st) σ) : Lw E b L xs pc ls (.int y :: .int x :: st) σ := by
  subst hp
  exact fun p e s m below meth c H locs la hX hP hS hl => lv_isub hX.1.1 hX.1.2.1 hd (k p e s m below meth c H locs la hX hP hS hl)
theorem w_iand (pc' : Nat) {x y : Int32} (hd : decode cL_law pc = .ok (.iand, 1)) (hp : pc + 1 = pc') (k : Lw E b L xs pc' ls (.int (x &&& y) :: st) σ) : Lw E b L xs pc ls (.int y :: .int x :: st) σ := by
  subst hp
  exact fun p e s m below meth c H locs la hX hP hS hl => lv_iand hX.1.1 hX.1.2.1 hd (k p e s m below meth c H locs la hX hP hS hl)
theorem w_lcmp (pc' : Nat) {x y : Int64} (hd : decode cL_law pc = .ok (.lcmp, 1)) (hp : pc + 1 = pc') (k : Lw E b L xs pc' ls (.int (lg_cmp x y) :: st) σ) : Lw E b L xs pc ls (.long y :: .long x :: st) σ := by
  subst hp
  exact fun p e s m below meth c H locs la hX hP hS hl => W.lcmp hX.1.1 hX.1.2.1 hd (k p e s m below meth c H locs la hX hP hS hl)
theorem w_goto (tgt : Nat) {off : Int} (hd : decode cL_law pc = .ok (.goto off, 3)) (ht : (pc : Int) + off = (tgt : Int)) (k : Lw E b L xs tgt ls st σ) : Lw E b L xs pc ls st σ := fun p e s m below meth c H locs la hX hP hS hl => lv_goto hX.1.1 hX.1.2.1 hd ht (k p e s m below meth c H locs la hX hP hS hl)
theorem w_if_eq (tgt pc' : Nat) {x : Int32} {off : Int} (hd : decode cL_law pc = .ok (.ifCond .eq off, 3)) (ht : (pc : Int) + off = (tgt : Int)) (hp : pc + 3 = pc') (kt : x = 0 → Lw E b L xs tgt ls st σ) (kf : ¬ x = 0 → Lw E b L xs pc' ls st σ) : Lw E b L xs pc ls (.int x :: st) σ := by
  subst hp
  exact fun p e s m below meth c H locs la hX hP hS hl => lv_if_eq hX.1.1 hX.1.2.1 hd ht (fun h => kt h p e s m below meth c H locs la hX hP hS hl) (fun h => kf h p e s m below meth c H locs la hX hP hS hl)
theorem w_icmp_eq (tgt pc' : Nat) {x y : Int32} {off : Int} (hd : decode cL_law pc = .ok (.if_icmp .eq off, 3)) (ht : (pc : Int) + off = (tgt : Int)) (hp : pc + 3 = pc') (kt : x = y → Lw E b L xs tgt ls st σ) (kf : ¬ x = y → Lw E b L xs pc' ls st σ) : Lw E b L xs pc ls (.int y :: .int x :: st) σ := by
  subst hp
  exact fun p e s m below meth c H locs la hX hP hS hl => lv_icmp_eq hX.1.1 hX.1.2.1 hd ht (fun h => kt h p e s m below meth c H locs la hX hP hS hl) (fun h => kf h p e s m below meth c H locs la hX hP hS hl)
theorem w_icmp_gt (tgt pc' : Nat) {x y : Int32} {off : Int} (hd : decode cL_law pc = .ok (.if_icmp .gt off, 3)) (ht : (pc : Int) + off = (tgt : Int)) (hp : pc + 3 = pc') (kt : y < x → Lw E b L xs tgt ls st σ) (kf : ¬ y < x → Lw E b L xs pc' ls st σ) : Lw E b L xs pc ls (.int y :: .int x :: st) σ := by
  subst hp
  exact fun p e s m below meth c H locs la hX hP hS hl => lv_icmp_gt hX.1.1 hX.1.2.1 hd ht (fun h => kt h p e s m below meth c H locs la hX hP hS hl) (fun h => kf h p e s m below meth c H locs la hX hP hS hl)
theorem w_slen (pc' : Nat) (hd : decode cL_law pc = .ok (.arraylength, 1)) (hp : pc + 1 = pc') (k : Lw E b L xs pc' ls (.int (nI L) :: st) σ) : Lw E b L xs pc ls (.ref b :: st) σ := by
  subst hp
  intro p e s m below meth c H locs la hX hP hS hl
  obtain ⟨hx, hb, hr, hml, hown, hts, hX0, hbl, hlocks, hgv⟩ := hX.1
  exact va_slen hx hb hX0 hbl (by show ¬ E.2.1 ≤ b; have := hX.2.1; omega) hS hd (k p e s m below meth c H locs la hX hP hS hl)
theorem w_sld (pc' : Nat) {i : Int32} (hd : decode cL_law pc = .ok (.iaload, 1)) (hp : pc + 1 = pc') (hin : vp_in i L) (k : Lw E b L xs pc' ls (.int (xs i.toNatClampNeg) :: st) σ) : Lw E b L xs pc ls (.int i :: .ref b :: st) σ := by
  subst hp
  intro p e s m below meth c H locs la hX hP hS hl
  obtain ⟨hx, hb, hr, hml, hown, hts, hX0, hbl, hlocks, hgv⟩ := hX.1
  exact va_sld hx hb hX0 hbl (by show ¬ E.2.1 ≤ b; have := hX.2.1; omega) hS hin hd (k p e s m below meth c H locs la hX hP hS hl)
theorem w_iinc (pc' : Nat) {i : Nat} {n : Int} {x v : Int32} {ls' : List (Option Value)} (hd : decode cL_law pc = .ok (.iinc i n, 3)) (hp : pc + 3 = pc') (hi : ls[i]? = some (some (.int x))) (hv : x + Int32.ofInt n = v) (hn : i < 4) (hc : zck ls i = true) (hs : ls.set i (some (.int v)) = ls') (k : Lw E b L xs pc' ls' st σ) : Lw E b L xs pc ls st σ := by
  subst hp
  subst hs
  intro p e s m below meth c H locs la hX hP hS hl
  obtain ⟨j, hj⟩ := List.getElem?_of_mem (zas_mem.mpr ⟨Nat.zero_le i, hi⟩)
  exact lv_iinc hX.1.1 hX.1.2.1 hd hl hj hv hn rfl (fun la' hl' => k p e s m below meth c H locs la' hX hP hS (zas_set1 hl' hc))
/-- an argument: script[i + j] -/
theorem w_arg (pc' j : Nat) {i : Nat} {n : Int} (h0 : decode cL_law pc = .ok (.aload_n 0, 1)) (h1 : decode cL_law (pc + 1) = .ok (.iload_n 3, 1)) (h2 : decode cL_law (pc + 2) = .ok (.iconst n, 1)) (h3 : decode cL_law (pc + 3) = .ok (.iadd, 1)) (h4 : decode cL_law (pc + 4) = .ok (.iaload, 1)) (hp : pc + 5 = pc') (hn : Int32.ofInt n = nI j) (hi : i + j < L) (hL : L ≤ 3072) (k : Lw E b L xs pc' (lsL E b i) (.int (xs (i + j)) :: st) σ) : Lw E b L xs pc (lsL E b i) st σ := by
  subst hp
  refine w_aload_n (pc + 1) h0 rfl rfl ?_
  refine w_iload_n (pc + 2) h1 rfl rfl ?_
  refine w_iconst (pc + 3) h2 rfl hn ?_
  refine w_iadd (pc + 4) h3 rfl ?_
  rw [nI_add]
  refine w_sld (pc + 5) h4 rfl (vp_in_nI hi (by omega)) ?_
  rw [nI_clamp (by omega)]
  exact k
theorem w_after {p : Program} {e : Env} {s : State} {m : MethodId} {args : Array Value} {below : List Frame} {meth : Method} {c : Code} {H : Heap} {locs : List Loc} {la : Array Slot} {R : Room} {Z : State → Prop} {Q' : Option Value → zM → Prop} {st0 rest : List Value} {a : Array Value} {H0 : Heap} {kc ks : Nat}
    (hr : va_Run p E.1 e R s m args below meth c H locs kc ks 0 0 (F0 m pc la st0) rest (zQ E Q' a) (zA E)) (hS : va_S (zA E) H0 H locs)
    (kk : ∀ (v : Option Value) (τ : zM) (H1 : Heap) (locs1 : List Loc), Q' v τ → va_P (zD E) vwCl (zW E τ) H1 → va_S (zA E) H0 H1 locs1 → W p E.1 e R s m args below meth c H1 locs1 kc ks Z (F0 m (pc + 3) la (v.toList ++ rest))) : W p E.1 e R s m args below meth c H locs kc ks Z (F0 m pc la st0) := by
  intro T hT X
  obtain ⟨v, st₀, t, T', L', h0, X', hL, e1, e2, ⟨⟨v', τ, hv, hq, hP, hK⟩, hz, hk⟩, stp⟩ := hr T hT X
  cases hv
  rw [h0] at hz hk
  obtain ⟨t2, a1, b1⟩ := kk v τ T'.heap (locs ++ L') hq (by rw [e1]; exact hP)
    ⟨Nat.le_trans hS.1 (by rw [e1]; exact hz), fun q h1 h2 => by rw [e1, hk q (Nat.lt_of_lt_of_le h1 hS.1) h2]; exact hS.2.1 q h1 h2, fun q hq => by
      rcases List.mem_append.mp hq with h | h
      · exact hS.2.2 q h
      · exact hL q h⟩ T' rfl X'
  exact ⟨t2, stp t2 a1, b1⟩
theorem lw_zTb {b : Nat} {s : State} (hts : ∀ w ∈ lw_tbl, w.before #[Value.ref b] s = true) : ∀ w ∈ zTb, w.before #[Value.ref b] s = true := fun w hw => hts w (List.mem_filter.mp hw).1
theorem w_call (pc' : Nat) {M' : zY} {idx n ci a d : Nat} {As rest : List Value} {Q' : Option Value → zM → Prop} (hR : Ret E M' d (zr E a :: As) σ Q') (hc : zCalV M' n ci) (hd : decode cL_law pc = .ok (.invokevirtual idx, 3)) (hp : pc + 3 = pc') (hl : Cond.methodLink RL idx M'.1 ∈ zTb) (hk : (kd a).1 = ci) (hn : As.length = n) (hst : st = As.reverse ++ zr E a :: rest) (hw : (rest.map fun v => v.category).sum ≤ 8) (hdd : d ≤ 100)
    (k : ∀ (v : Option Value) (τ : zM), Q' v τ → Lw E b L xs pc' ls (v.toList ++ rest) τ) : Lw E b L xs pc ls st σ := by
  subst hp
  intro p e s m below meth c H locs la hX hP hS hla
  obtain ⟨hx, hb, hr, hml, hown, hts, hX0, hbl, hlocks, hgv⟩ := hX.1
  obtain ⟨⟨c1, c2, c3, c4, c5⟩, c6, c7, c8, T, N, c9⟩ := hc
  have ht := lw_zTb hts
  have hK := hX.2.2
  have hlt : a < 125 := kd_lt (by omega)
  refine w_after (st0 := st) (rest := rest) (va_runV (Ts := zTb) (As := As) (b := E.2.1 + a) (n := n) ⟨hx, hb, hml, hown, ht⟩ hR ⟨⟨rfl, rfl, by show d + 1 + 1 ≤ 2048; omega, by show 8 + (M'.2.2.1 + 11) + 64 * (d + 1) ≤ 84000; omega, z_pay' c1 ht, List.mem_cons_self, ht _ c1, ht _ c2, c3, fun sig h => by rw [h] at c4; exact (Option.some.inj c4).symm, ht _ hl⟩, ht _ c6, ht _ c7⟩ ⟨z_blind _ _ _, va_recv hK hP c9 ((zW_get E σ hlt).trans (by rw [zC_obj hk c8])), fun U hU hW => ⟨rfl, by rw [hU]; exact hP, va_K.moved hW.alike hK⟩⟩ rfl hn hla.1 hst (lv_room hw) hd ⟨by show 125 + 0 ≤ 600000; omega, by show 6832 + 0 ≤ 7302250; omega⟩) hS (fun v τ H1 locs1 hq hP1 hS1 => ?_)
  exact k v τ hq p e s m below meth c H1 locs1 la hX hP1 hS1 hla
theorem w_end (h1 : decode cL_law pc = .ok (.ireturn, 1)) : Lw E b L xs pc ls [.int 1] σ := by
  intro p e s m below meth c H locs la hX hP hS hla
  obtain ⟨hx, hb, hr, hml, hown, hts, hX0, hbl, hlocks, hgv⟩ := hX.1
  refine va_forget (fun q hq => by rw [hX.2.1]; exact hS.2.2 q hq) ?_
  refine W.widen (k := 600000) (n := 7302250) (by decide) (by decide) ?_
  exact lw_ret hx hb hr hlocks h1
theorem w_tabOut (tgt : Nat) {dflt lo hi : Int} {offs : Array Int} {len : Nat} {x : Int32} (hd : decode cL_law pc = .ok (.tableswitch dflt lo hi offs, len)) (h : x.toInt < lo ∨ hi < x.toInt) (ht : (pc : Int) + dflt = (tgt : Int)) (k : Lw E b L xs tgt ls st σ) : Lw E b L xs pc ls (.int x :: st) σ := fun p e s m below meth c H locs la hX hP hS hl => lv_tableOut hX.1.1 hX.1.2.1 hd h ht (k p e s m below meth c H locs la hX hP hS hl)
theorem w_tabIn (tgt : Nat) {dflt lo hi off : Int} {offs : Array Int} {len : Nat} {x : Int32} (hd : decode cL_law pc = .ok (.tableswitch dflt lo hi offs, len)) (h1 : ¬ x.toInt < lo) (h2 : ¬ hi < x.toInt) (ho : offs[(x.toInt - lo).toNat]? = some off) (ht : (pc : Int) + off = (tgt : Int)) (k : Lw E b L xs tgt ls st σ) : Lw E b L xs pc ls (.int x :: st) σ := fun p e s m below meth c H locs la hX hP hS hl => lv_tableIn hX.1.1 hX.1.2.1 hd h1 h2 ho ht (k p e s m below meth c H locs la hX hP hS hl)
end LawRows
