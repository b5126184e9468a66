/-! the start -/
def S0 : sS := (fun _ => none, fun _ => none, (fun _ => 0, fun _ _ _ => 0), (0, fun _ => (0, 0, 0, 0)), (0, fun _ => (false, 0, 0, 0, fun _ => 0, none)), (0, fun _ => 0, 0, 0, 1))
theorem WF_0 : WF S0 := ⟨fun l _ => ⟨Nat.zero_le 8, fun w hw => absurd hw (Nat.not_lt_zero w)⟩, ⟨Nat.zero_le 8, fun p hp => absurd hp (Nat.not_lt_zero p)⟩, Nat.zero_le 12, fun q hq => absurd hq (Nat.not_lt_zero q)⟩
theorem RX_0 : RX S0 st0 := by
  refine ⟨fun r hr => ?_, fun r hr => ?_, fun l hl => ⟨?_, fun w hw => absurd hw (Nat.not_lt_zero w)⟩, ⟨rfl, fun q hq => absurd hq (Nat.not_lt_zero q)⟩, ⟨rfl, fun q hq => absurd hq (Nat.not_lt_zero q)⟩, rfl, fun f hf => rfl, rfl, rfl, rfl⟩
  · rcases (by omega : r = 0 ∨ r = 1 ∨ r = 2 ∨ r = 3 ∨ r = 4 ∨ r = 5) with rfl | rfl | rfl | rfl | rfl | rfl <;> rfl
  · rcases (by omega : r = 0 ∨ r = 1 ∨ r = 2 ∨ r = 3) with rfl | rfl | rfl | rfl <;> rfl
  · rcases (by omega : l = 0 ∨ l = 1) with rfl | rfl <;> rfl
theorem RM_0 : RM S0 st0 := by
  refine ⟨fun r hr => ?_, fun r hr => ?_, fun l hl => ⟨?_, fun w hw => absurd hw (Nat.not_lt_zero w)⟩, ⟨rfl, fun q hq => absurd hq (Nat.not_lt_zero q)⟩, ⟨rfl, fun q hq => absurd hq (Nat.not_lt_zero q)⟩, rfl, fun f hf => rfl, rfl, rfl, rfl⟩
  · rcases (by omega : r = 0 ∨ r = 1 ∨ r = 2 ∨ r = 3 ∨ r = 4 ∨ r = 5) with rfl | rfl | rfl | rfl | rfl | rfl <;> rfl
  · rcases (by omega : r = 0 ∨ r = 1 ∨ r = 2 ∨ r = 3) with rfl | rfl | rfl | rfl <;> rfl
  · rcases (by omega : l = 0 ∨ l = 1) with rfl | rfl <;> rfl
theorem clL_7 : Cond.classLink RL 7 RX9 ∈ zTb := zin 15 (by decide +kernel) rfl
theorem clL_10 : Cond.classLink RL 10 RX10 ∈ zTb := zin 902 (by decide +kernel) rfl
theorem liL_9 : Cond.methodLink RL 9 yX9_init ∈ zTb := zin 17 (by decide +kernel) rfl
theorem liL_12 : Cond.methodLink RL 12 yX10_init ∈ zTb := zin 904 (by decide +kernel) rfl
theorem aoS : Cond.arrayOver (.object RX7) ∈ lw_tbl := List.mem_append_right _ (List.mem_of_getElem? (i := 24) (by decide +kernel))
theorem aoB : Cond.arrayOver (.object RX1) ∈ lw_tbl := List.mem_append_right _ (List.mem_of_getElem? (i := 26) (by decide +kernel))
theorem aoP : Cond.arrayOver (.object RX4) ∈ lw_tbl := List.mem_append_right _ (List.mem_of_getElem? (i := 28) (by decide +kernel))
theorem aoF : Cond.arrayOver (.object RX3) ∈ lw_tbl := List.mem_append_right _ (List.mem_of_getElem? (i := 30) (by decide +kernel))
section Start
variable {E : zE} {p : Program} {e : Env} {s : State} {m : MethodId} {args : Array Value} {below : List Frame} {meth : Method} {c : Code} {H : Heap} {locs : List Loc} {la : Array Slot} {R : Room} {Z : State → Prop} {pc kc ks N : Nat} {w : zN} {st : List Value} {cc : ByteArray} {own : String} {nL : Nat}
theorem s_new {idx ci Nf : Nat} {T : u_T} {C : String} (hx : p.tables.exec = Jvm.exec) (hb : c.code = cc) (hown : s.vm.findClass own = some m.cls) (hts : ∀ w ∈ zTb, w.before args s = true) (hK : va_K (zD E) vwCl (zT E) s) (hP : va_P (zD E) vwCl (cW E w N) H) (hz : H.size = E.2.1 + N) (hS : va_S (zA E) s.heap H locs) (ty : Nat → FieldType) {fs : List Value} (hty : ∀ k, k < Nf → parseFieldDescriptor (T k).2.2.1 = some (ty k)) (hd : decode cc pc = .ok (.new idx, 3)) (hcl : vwCl[ci]? = some (C, T, Nf)) (hin : ∀ w ∈ u_ws C T Nf, w ∈ zTb) (hl : Cond.classLink own idx C ∈ zTb) (hi : Cond.instantiable C Nf ∈ zTb) (hini : Cond.initialized C ∈ zTb) (hfs : dV ty Nf = fs) (h1 : kc + 1 ≤ R.cells) (h2 : ks + Nf ≤ R.slots)
    (k : ∀ H1 : Heap, va_P (zD E) vwCl (cW E (zu w N (.inr (ci, fs))) (N + 1)) H1 → H1.size = E.2.1 + (N + 1) → va_S (zA E) s.heap H1 locs → W p E.1 e R s m args below meth c H1 locs (kc + 1) (ks + Nf) Z (F0 m (pc + 3) la (zr E N :: st))) : W p E.1 e R s m args below meth c H locs kc ks Z (F0 m pc la st) := by
  subst hfs
  have hKn := hK.1 ci _ hcl
  refine W.newcK hx hb hown (hts _ hl) (hts _ hi) (hts _ hini) rfl hd h1 h2 hKn.2.1 rfl fun H1 kC hkC e1 z1 o1 => ?_
  have hP1 := cW_push (x := .inr (ci, dV ty Nf)) hP hz (fun q hq => o1 q (by rw [hz]; exact hq)) (by
    rw [hz] at e1
    exact ⟨_, hcl, (u_born ty hts hin hKn hkC e1 hty).to (fun j hj => (dV_at hj).symm)⟩)
  have hk := k H1 hP1 (by omega) ⟨Nat.le_trans hS.1 (by omega), fun x h1 h2 => (o1 x (Nat.lt_of_lt_of_le h1 hS.1)).trans (hS.2.1 x h1 h2), hS.2.2⟩
  rw [hz]
  exact hk
theorem s_init {M' : zY} {idx a mc' ms' d : Nat} {rest : List Value} {Q' : zN → Nat → Prop} (hx : p.tables.exec = Jvm.exec) (hb : c.code = cc) (hml : c.maxLocals = nL) (hown : s.vm.findClass own = some m.cls) (hts : ∀ w ∈ zTb, w.before args s = true) (hK : va_K (zD E) vwCl (zT E) s) (hO : zAO s) (hP : va_P (zD E) vwCl (cW E w N) H) (hz : H.size = E.2.1 + N) (hS : va_S (zA E) s.heap H locs) (hla : la.size = nL) (hR : Rit E M' d [zr E a] w N Q' mc' ms') (hc : zCalI M' 0) (hd : decode cc pc = .ok (.invokespecial idx, 3)) (hl : Cond.methodLink own idx M'.1 ∈ zTb) (hw : (rest.map fun v => v.category).sum ≤ 8) (h1 : kc + mc' ≤ R.cells) (h2 : ks + ms' ≤ R.slots) (h3 : d + 1 + 1 ≤ R.frames) (h4 : 8 + (M'.2.2.1 + 11) + 64 * (d + 1) ≤ R.locals)
    (k : ∀ (w' : zN) (N' : Nat) (H1 : Heap) (locs1 : List Loc), Q' w' N' → va_P (zD E) vwCl (cW E w' N') H1 → H1.size = E.2.1 + N' → va_S (zA E) s.heap H1 locs1 → W p E.1 e R s m args below meth c H1 locs1 (kc + mc') (ks + ms') Z (F0 m (pc + 3) la rest)) : W p E.1 e R s m args below meth c H locs kc ks Z (F0 m pc la (zr E a :: rest)) := by
  obtain ⟨⟨c1, c2, c3, c4, c5⟩, c6, c7, c8⟩ := hc
  exact b_after (rest := rest) (va_runI (Ts := zTb) (As := []) (b := E.2.1 + a) (n := 0) (bytes := M'.2.1) (maxL := M'.2.2.1) ⟨hx, hb, hml, hown, hts⟩ hR ⟨⟨rfl, rfl, h3, h4, z_pay' c1 hts, z_mem0 c8, by rw [← c8]; exact hts _ c1, hts _ c2, c3, fun sig h => by rw [h] at c4; exact (Option.some.inj c4).symm, hts _ hl⟩, c6, hts _ c7⟩ ⟨b_blind _ _ _ _, fun U hU hW => ⟨rfl, by rw [hU]; exact hP, by rw [hU]; exact hz, va_K.moved hW.alike hK, hO.moved hW.alike⟩⟩ rfl rfl hla rfl (lv_room hw) hd ⟨h1, h2⟩) hS k
end Start
theorem start_E {E : zE} {p : Program} {e : Env} {s : State} {m : MethodId} {below : List Frame} {meth : Method} {c : Code} {b L : Nat} {xs : Nat → Int32} (hL : L ≤ 3072) (C0 : lw_At p s m meth c b L xs) (h0 : s.heap.size = E.2.1) (hK : va_K (zD E) vwCl (zT E) s) (hO : zAO s) : W p E.1 e room_1 s m #[Value.ref b] below meth c s.heap [] 0 0 (lw_Z below #[Value.ref b] s) (entryFrame m ([Value.ref b] : List Value).toArray 4) := by
  obtain ⟨hx, hb, hr, hml, hown, hts0, hX, hbl, hlocks, hgv⟩ := id C0
  have hts := lw_zTb hts0
  have hl := lv_entry ([Value.ref b]) (n := 4) (Nat.le_of_ble_eq_true rfl)
  rw [lg_entry_eq]
  generalize (lg_sl ([Value.ref b]) ++ List.replicate (4 - (lg_sl ([Value.ref b])).length) Slot.unset).toArray = la at hl ⊢
  have hl : lv_has la 4 (zas 0 [some (.ref b), none, none, none]) := hl
  have hP0 : va_P (zD E) vwCl (cW E (fun _ => .inr (9, [])) 0) s.heap := fun k q h => by simp [cW] at h
  refine s_new (own := RL) hx hb hown hts hK hP0 h0 va_S.rf tyX9 (fs := [.null, .null, .null, .null, .null, .null, .null, .null, .null, .null, .null, .int 0, .int 0]) tyX9_ok dL_law_0 (ci := 9) rfl iX9 clL_7 inX9 iniX9 rfl (by decide) (by decide) (fun H1 hP1 hz1 hS1 => ?_)
  refine lv_dup hx hb dL_law_3 rfl ?_
  refine s_init (own := RL) (rest := [zr E 0]) hx hb hml hown hts hK hO hP1 hz1 hS1 hl.1 (tX9_init 0 (zu_same _ _ _)) kiX9 dL_law_4 liL_9 (Nat.le_of_ble_eq_true rfl) (by decide) (by decide) (by decide) (by decide) (fun w2 N2 H2 locs2 hq2 hP2 hz2 hS2 => ?_)
  obtain ⟨rfl, hq2⟩ := hq2
  have hP2 := hq2.P hP2
  refine lv_astore_n hx hb dL_law_7 rfl hl (by decide) rfl (fun la hl => ?_)
  have hl := zas_set1 (i := 1) hl rfl
  refine s_new (own := RL) hx hb hown hts hK hP2 hz2 hS2 tyX10 (fs := [.int 0, .null, .int 0, .long 0, .long 0, .null, .null, .null, .null, .null, .null, .null, .int 0, .int 0, .null, .null, .int 0, .null, .int 0, .null, .null, .null, .int 0, .null, .null, .null, .int 0, .null, .null, .long 0, .int 0, .int 0, .null, .null, .int 0, .int 0, .null, .int 0, .long 0]) tyX10_ok dL_law_8 (ci := 10) rfl iX10 clL_10 inX10 iniX10 rfl (by decide) (by decide) (fun H3 hP3 hz3 hS3 => ?_)
  refine lv_dup hx hb dL_law_11 rfl ?_
  refine s_init (own := RL) (rest := [zr E 102]) hx hb hml hown hts hK hO hP3 hz3 hS3 hl.1 (tX10_init 0 (zu_same _ _ _) (fun k hk => zu_ne _ _ (by omega))) kiX10 dL_law_12 liL_12 (Nat.le_of_ble_eq_true rfl) (by decide) (by decide) (by decide) (by decide) (fun w4 N4 H4 locs4 hq4 hP4 hz4 hS4 => ?_)
  obtain ⟨rfl, hq4⟩ := hq4
  have hP4 : va_P (zD E) vwCl (zW E st0) H4 := hq4.P hP4
  refine lv_astore_n hx hb dL_law_15 rfl hl (by decide) rfl (fun la hl => ?_)
  have hl := zas_set1 (i := 2) hl rfl
  refine lv_iconst (v := nI 0) hx hb dL_law_16 (by decide) ?_
  refine lv_istore_n hx hb dL_law_17 rfl hl (by decide) rfl (fun la hl => ?_)
  have hl := zas_set1 (i := 3) hl rfl
  exact law_loop hL (L + 1) 0 st0 S0 (Nat.zero_le L) (by omega) WF_0 RX_0 RM_0 p e s m below meth c H4 locs4 la ⟨C0, h0, hK⟩ hP4 hS4 hl
theorem ao_at {C : String} {s : State} {args : Array Value} (h : (Cond.arrayOver (.object C)).before args s = true) : ∃ cA : ClassId, ArrOfT s cA (.object C) ∧ va_RA s cA (.object C) := by
  obtain ⟨comp, cA, kA, f1, f2, f3, f4, f5⟩ := Cond.arrayOver_spec h
  exact ⟨cA, fun N z => ⟨fun k h => (by cases h), kA, f3, comp, f4⟩, kA, comp, f3, f4, f1, f5⟩
theorem whole_start {p : Program} {e : Env} {s : State} {m : MethodId} {below : List Frame} {meth : Method} {c : Code} (l : Launch) (hflags : l.flags = flags0) {b L : Nat} {xs : Nat → Int32} (hL : L ≤ 3072) (C0 : lw_At p s m meth c b L xs) : W p l e room_1 s m #[Value.ref b] below meth c s.heap [] 0 0 (lw_Z below #[Value.ref b] s) (entryFrame m ([Value.ref b] : List Value).toArray 4) := by
  obtain ⟨hx, hb, hr, hml, hown, hts0, hX, hbl, hlocks, hgv⟩ := id C0
  have hts := lw_zTb hts0
  obtain ⟨c0, i0, hk0⟩ := u_known (C := RX0) (T := TX0) (N := 5) (n := 5) hts iX0 (hts _ inX0)
  obtain ⟨c1, i1, hk1⟩ := u_known (C := RX1) (T := TX1) (N := 2) (n := 2) hts iX1 (hts _ inX1)
  obtain ⟨c2, i2, hk2⟩ := u_known (C := RX2) (T := TX2) (N := 2) (n := 2) hts iX2 (hts _ inX2)
  obtain ⟨c3, i3, hk3⟩ := u_known (C := RX3) (T := TX3) (N := 6) (n := 6) hts iX3 (hts _ inX3)
  obtain ⟨c4, i4, hk4⟩ := u_known (C := RX4) (T := TX4) (N := 6) (n := 6) hts iX4 (hts _ inX4)
  obtain ⟨c5, i5, hk5⟩ := u_known (C := RX5) (T := TX5) (N := 8) (n := 8) hts iX5 (hts _ inX5)
  obtain ⟨c6, i6, hk6⟩ := u_known (C := RX6) (T := TX6) (N := 4) (n := 4) hts iX6 (hts _ inX6)
  obtain ⟨c7, i7, hk7⟩ := u_known (C := RX7) (T := TX7) (N := 2) (n := 2) hts iX7 (hts _ inX7)
  obtain ⟨c8, i8, hk8⟩ := u_known (C := RX8) (T := TX8) (N := 6) (n := 6) hts iX8 (hts _ inX8)
  obtain ⟨c9, i9, hk9⟩ := u_known (C := RX9) (T := TX9) (N := 13) (n := 13) hts iX9 (hts _ inX9)
  obtain ⟨c10, i10, hk10⟩ := u_known (C := RX10) (T := TX10) (N := 39) (n := 39) hts iX10 (hts _ inX10)
  obtain ⟨aI, kI, pI, eI1, eI2, eI3⟩ := Cond.arrayClass_spec (hts _ acI)
  obtain ⟨aL, kL, pL, eL1, eL2, eL3⟩ := Cond.arrayClass_spec (hts _ acL)
  obtain ⟨aZ, kZ, pZ, eZ1, eZ2, eZ3⟩ := Cond.arrayClass_spec (hts _ acZ)
  obtain ⟨aS, eS⟩ := ao_at (hts0 _ aoS)
  obtain ⟨aB, eB⟩ := ao_at (hts0 _ aoB)
  obtain ⟨aP, eP⟩ := ao_at (hts0 _ aoP)
  obtain ⟨aF, eF⟩ := ao_at (hts0 _ aoF)
  have hO : zAO s := ⟨va_AO.of (hts0 _ aoS), va_AO.of (hts0 _ aoB), va_AO.of (hts0 _ aoP), va_AO.of (hts0 _ aoF)⟩
  refine start_E (E := (l, s.heap.size, fun k => match k with | 0 => c0 | 1 => c1 | 2 => c2 | 3 => c3 | 4 => c4 | 5 => c5 | 6 => c6 | 7 => c7 | 8 => c8 | 9 => c9 | _ => c10, fun k => match k with | 0 => i0 | 1 => i1 | 2 => i2 | 3 => i3 | 4 => i4 | 5 => i5 | 6 => i6 | 7 => i7 | 8 => i8 | 9 => i9 | _ => i10, fun k => match k with | 0 => aI | 1 => aL | 2 => aZ | 3 => aS | 4 => aB | 5 => aP | _ => aF)) hL C0 rfl ⟨fun k q hq => ?_, fun k q hq => ?_⟩ hO
  · match k, hq with
    | 0, hq => cases hq; exact hk0
    | 1, hq => cases hq; exact hk1
    | 2, hq => cases hq; exact hk2
    | 3, hq => cases hq; exact hk3
    | 4, hq => cases hq; exact hk4
    | 5, hq => cases hq; exact hk5
    | 6, hq => cases hq; exact hk6
    | 7, hq => cases hq; exact hk7
    | 8, hq => cases hq; exact hk8
    | 9, hq => cases hq; exact hk9
    | 10, hq => cases hq; exact hk10
    | k + 11, hq => simp [vwCl] at hq
  · match k, hq with
    | 0, hq => cases hq; exact ⟨fun N z => ⟨fun k h => (by cases h), kI, eI2, pI, eI3⟩, eI1⟩
    | 1, hq => cases hq; exact ⟨fun N z => ⟨fun k h => (by cases h), kL, eL2, pL, eL3⟩, eL1⟩
    | 2, hq => cases hq; exact ⟨fun N z => ⟨fun k h => (by cases h), kZ, eZ2, pZ, eZ3⟩, eZ1⟩
    | 3, hq => cases hq; exact eS
    | 4, hq => cases hq; exact eB
    | 5, hq => cases hq; exact eP
    | 6, hq => cases hq; exact eF
    | k + 7, hq => simp [zT] at hq
