section Rows2
variable {E : zE} {M : zY} {d : Nat} {Q : Option Value → zM → Prop} {pc : Nat} {ls : List (Option Value)} {st : List Value} {σ : zM}
theorem z_iret {v : Int32} (hd : decode M.2.1 pc = .ok (.ireturn, 1)) (hr : M.2.2.2 = some .int) (hq : Q (some (.int v)) σ) : At E M d Q pc ls [.int v] σ := by
  intro p e s m args below meth c H locs la hX hP hS hl
  exact W.iret hX.1 hX.2.1 (hX.2.2.2.1.trans hr) (fun t ht hW => ⟨⟨some (.int v), σ, rfl, hq, by rw [ht]; exact hP, va_K.moved hW.alike hX.2.2.2.2.2.2.2⟩, hS.F ht⟩) hS.2.2 hd hX.2.2.2.2.1
theorem z_zret {v : Int32} (hd : decode M.2.1 pc = .ok (.ireturn, 1)) (hr : M.2.2.2 = some .boolean) (hv : v = 0 ∨ v = 1) (hq : Q (some (.int v)) σ) : At E M d Q pc ls [.int v] σ := by
  intro p e s m args below meth c H locs la hX hP hS hl
  exact W.zret hX.1 hX.2.1 (hX.2.2.2.1.trans hr) (by rcases hv with rfl | rfl <;> rfl) (fun t ht hW => ⟨⟨some (.int v), σ, rfl, hq, by rw [ht]; exact hP, va_K.moved hW.alike hX.2.2.2.2.2.2.2⟩, hS.F ht⟩) hS.2.2 hd hX.2.2.2.2.1
theorem z_lret {v : Int64} (hd : decode M.2.1 pc = .ok (.lreturn, 1)) (hr : M.2.2.2 = some .long) (hq : Q (some (.long v)) σ) : At E M d Q pc ls [.long v] σ := by
  intro p e s m args below meth c H locs la hX hP hS hl
  exact W.lret hX.1 hX.2.1 (hX.2.2.2.1.trans hr) (fun t ht hW => ⟨⟨some (.long v), σ, rfl, hq, by rw [ht]; exact hP, va_K.moved hW.alike hX.2.2.2.2.2.2.2⟩, hS.F ht⟩) hS.2.2 hd hX.2.2.2.2.1
theorem z_vret (hd : decode M.2.1 pc = .ok (.return_, 1)) (hr : M.2.2.2 = none) (hq : Q none σ) : At E M d Q pc ls [] σ := by
  intro p e s m args below meth c H locs la hX hP hS hl
  exact W.vret hX.1 hX.2.1 (hX.2.2.2.1.trans hr) (fun t ht hW => ⟨⟨none, σ, rfl, hq, by rw [ht]; exact hP, va_K.moved hW.alike hX.2.2.2.2.2.2.2⟩, hS.F ht⟩) hS.2.2 hd hX.2.2.2.2.1
theorem z_aret {v : Value} {rt : FieldType} (hd : decode M.2.1 pc = .ok (.areturn, 1)) (hr : M.2.2.2 = some rt) (hrt : (∃ n, rt = .object n) ∨ ∃ t, rt = .array t) (hv : v = .null ∨ ∃ a, v = .ref a) (hq : Q (some v) σ) : At E M d Q pc ls [v] σ := by
  intro p e s m args below meth c H locs la hX hP hS hl
  exact W.aret hX.1 hX.2.1 (hX.2.2.2.1.trans hr) hrt hv (fun t ht hW => ⟨⟨some v, σ, rfl, hq, by rw [ht]; exact hP, va_K.moved hW.alike hX.2.2.2.2.2.2.2⟩, hS.F ht⟩) hS.2.2 hd hX.2.2.2.2.1
theorem z_iald (pc' : Nat) {a n : Nat} {i : Int32} (hd : decode M.2.1 pc = .ok (.iaload, 1)) (hp : pc + 1 = pc') (hk : kd a = (11, n)) (hi : vp_in i n) (k : At E M d Q pc' ls (.int (gi σ a i.toNatClampNeg) :: st) σ) : At E M d Q pc ls (.int i :: zr E a :: st) σ := by
  subst hp
  intro p e s m args below meth c H locs la hX hP hS hl
  exact va_iald hX.1 hX.2.1 hX.2.2.2.2.2.2.2 hP a 0 ((zW_get E σ (kd_lt (by rw [hk]; exact (by decide : (11 : Nat) ≠ 99)))).trans (by rw [zC_int hk]; rfl)) rfl hi hd (k p e s m args below meth c H locs la hX hP hS hl)
theorem z_lald (pc' : Nat) {a n : Nat} {i : Int32} (hd : decode M.2.1 pc = .ok (.laload, 1)) (hp : pc + 1 = pc') (hk : kd a = (12, n)) (hi : vp_in i n) (k : At E M d Q pc' ls (.long (gl σ a i.toNatClampNeg) :: st) σ) : At E M d Q pc ls (.int i :: zr E a :: st) σ := by
  subst hp
  intro p e s m args below meth c H locs la hX hP hS hl
  exact va_lald hX.1 hX.2.1 hX.2.2.2.2.2.2.2 hP a 1 ((zW_get E σ (kd_lt (by rw [hk]; exact (by decide : (12 : Nat) ≠ 99)))).trans (by rw [zC_long hk]; rfl)) rfl hi hd (k p e s m args below meth c H locs la hX hP hS hl)
theorem z_zald (pc' : Nat) {a n : Nat} {i : Int32} (hd : decode M.2.1 pc = .ok (.baload, 1)) (hp : pc + 1 = pc') (hk : kd a = (13, n)) (hi : vp_in i n) (k : At E M d Q pc' ls (.int (gi σ a i.toNatClampNeg) :: st) σ) : At E M d Q pc ls (.int i :: zr E a :: st) σ := by
  subst hp
  intro p e s m args below meth c H locs la hX hP hS hl
  exact va_zald hX.1 hX.2.1 hX.2.2.2.2.2.2.2 hP a 2 ((zW_get E σ (kd_lt (by rw [hk]; exact (by decide : (13 : Nat) ≠ 99)))).trans (by rw [zC_bool hk]; rfl)) rfl hi hd (k p e s m args below meth c H locs la hX hP hS hl)
theorem z_aald (pc' : Nat) {a n t : Nat} {C : String} {i : Int32} (hd : decode M.2.1 pc = .ok (.aaload, 1)) (hp : pc + 1 = pc') (hk : kd a = (t + 14, n)) (ht : (zT E)[t + 3]? = some (E.2.2.2.2 (t + 3), .object C)) (h9 : t + 14 ≠ 99) (hi : vp_in i n) (k : At E M d Q pc' ls (zr E (zLa a i.toNatClampNeg) :: st) σ) : At E M d Q pc ls (.int i :: zr E a :: st) σ := by
  subst hp
  intro p e s m args below meth c H locs la hX hP hS hl
  exact va_aldq (f := fun j => some (E.2.1 + zLa a j)) hX.1 hX.2.1 hX.2.2.2.2.2.2.2 hP a (t + 3) ((zW_get E σ (kd_lt (by rw [hk]; exact h9))).trans (by rw [zC_ref hk])) ht hi hd (k p e s m args below meth c H locs la hX hP hS hl)
theorem z_iast (pc' : Nat) {a n : Nat} {i x : Int32} (hd : decode M.2.1 pc = .ok (.iastore, 1)) (hp : pc + 1 = pc') (hk : kd a = (11, n)) (hi : vp_in i n) (k : At E M d Q pc' ls st (si σ a i.toNatClampNeg x)) : At E M d Q pc ls (.int x :: .int i :: zr E a :: st) σ := by
  subst hp
  intro p e s m args below meth c H locs la hX hP hS hl
  have hlt : a < 125 := kd_lt (by rw [hk]; exact (by decide : (11 : Nat) ≠ 99))
  refine va_iast hX.1 hX.2.1 hX.2.2.2.2.2.2.2 hP (zW_D E σ) hS a 0 ((zW_get E σ hlt).trans (by rw [zC_int hk])) rfl hi hd (fun H1 locs1 hP1 hD1 hS1 => ?_)
  rw [zW_set E (σ := σ) (τ := si σ a i.toNatClampNeg x) hlt (fun y hy => ⟨by simp [si, zu, hy], rfl, rfl⟩) (by rw [zC_int hk]; simp [si, zu, upd]; rfl)] at hP1
  exact k p e s m args below meth c H1 locs1 la hX hP1 hS1 hl
theorem z_last (pc' : Nat) {a n : Nat} {i : Int32} {x : Int64} (hd : decode M.2.1 pc = .ok (.lastore, 1)) (hp : pc + 1 = pc') (hk : kd a = (12, n)) (hi : vp_in i n) (k : At E M d Q pc' ls st (sl σ a i.toNatClampNeg x)) : At E M d Q pc ls (.long x :: .int i :: zr E a :: st) σ := by
  subst hp
  intro p e s m args below meth c H locs la hX hP hS hl
  have hlt : a < 125 := kd_lt (by rw [hk]; exact (by decide : (12 : Nat) ≠ 99))
  refine va_last hX.1 hX.2.1 hX.2.2.2.2.2.2.2 hP (zW_D E σ) hS a 1 ((zW_get E σ hlt).trans (by rw [zC_long hk])) rfl hi hd (fun H1 locs1 hP1 hD1 hS1 => ?_)
  rw [zW_set E (σ := σ) (τ := sl σ a i.toNatClampNeg x) hlt (fun y hy => ⟨rfl, by simp [sl, zu, hy], rfl⟩) (by rw [zC_long hk]; simp [sl, zu, vp_updL]; rfl)] at hP1
  exact k p e s m args below meth c H1 locs1 la hX hP1 hS1 hl
theorem z_zast (pc' : Nat) {a n : Nat} {i x : Int32} (hd : decode M.2.1 pc = .ok (.bastore, 1)) (hp : pc + 1 = pc') (hk : kd a = (13, n)) (hi : vp_in i n) (hx : x = 0 ∨ x = 1) (k : At E M d Q pc' ls st (si σ a i.toNatClampNeg x)) : At E M d Q pc ls (.int x :: .int i :: zr E a :: st) σ := by
  subst hp
  intro p e s m args below meth c H locs la hX hP hS hl
  have hlt : a < 125 := kd_lt (by rw [hk]; exact (by decide : (13 : Nat) ≠ 99))
  refine va_zast hX.1 hX.2.1 hX.2.2.2.2.2.2.2 hP (zW_D E σ) hS a 2 ((zW_get E σ hlt).trans (by rw [zC_bool hk])) rfl hi hd (fun H1 locs1 hP1 hD1 hS1 => ?_)
  have hn : vp_nar .boolean x = x := by rcases hx with rfl | rfl <;> rfl
  rw [hn] at hP1
  rw [zW_set E (σ := σ) (τ := si σ a i.toNatClampNeg x) hlt (fun y hy => ⟨by simp [si, zu, hy], rfl, rfl⟩) (by rw [zC_bool hk]; simp [si, zu, upd]; rfl)] at hP1
  exact k p e s m args below meth c H1 locs1 la hX hP1 hS1 hl
theorem z_alen (pc' : Nat) {a n : Nat} (hd : decode M.2.1 pc = .ok (.arraylength, 1)) (hp : pc + 1 = pc') (hk : kd a = (11, n)) (k : At E M d Q pc' ls (.int (nI n) :: st) σ) : At E M d Q pc ls (zr E a :: st) σ := by
  subst hp
  intro p e s m args below meth c H locs la hX hP hS hl
  exact va_alen (x := (n, .inl (σ.1 a))) hX.1 hX.2.1 hX.2.2.2.2.2.2.2 hP a 0 ((zW_get E σ (kd_lt (by rw [hk]; exact (by decide : (11 : Nat) ≠ 99)))).trans (by rw [zC_int hk])) rfl rfl hd (k p e s m args below meth c H locs la hX hP hS hl)
theorem z_alenZ (pc' : Nat) {a n : Nat} (hd : decode M.2.1 pc = .ok (.arraylength, 1)) (hp : pc + 1 = pc') (hk : kd a = (13, n)) (k : At E M d Q pc' ls (.int (nI n) :: st) σ) : At E M d Q pc ls (zr E a :: st) σ := by
  subst hp
  intro p e s m args below meth c H locs la hX hP hS hl
  exact va_alen (x := (n, .inl (σ.1 a))) hX.1 hX.2.1 hX.2.2.2.2.2.2.2 hP a 2 ((zW_get E σ (kd_lt (by rw [hk]; exact (by decide : (13 : Nat) ≠ 99)))).trans (by rw [zC_bool hk])) rfl rfl hd (k p e s m args below meth c H locs la hX hP hS hl)
theorem z_alenR (pc' : Nat) {a n t : Nat} {C : String} (hd : decode M.2.1 pc = .ok (.arraylength, 1)) (hp : pc + 1 = pc') (hk : kd a = (t + 14, n)) (ht : (zT E)[t + 3]? = some (E.2.2.2.2 (t + 3), .object C)) (h9 : t + 14 ≠ 99) (k : At E M d Q pc' ls (.int (nI n) :: st) σ) : At E M d Q pc ls (zr E a :: st) σ := by
  subst hp
  intro p e s m args below meth c H locs la hX hP hS hl
  exact va_alen (x := (n, .inr (.inr (.inr (.inr (fun j => some (E.2.1 + zLa a j))))))) hX.1 hX.2.1 hX.2.2.2.2.2.2.2 hP a (t + 3) ((zW_get E σ (kd_lt (by rw [hk]; exact h9))).trans (by rw [zC_ref hk])) ht rfl hd (k p e s m args below meth c H locs la hX hP hS hl)
/-- fields -/
theorem z_getf (pc' : Nat) {a ci j idx N : Nat} {T : u_T} {C ref : String} {v : Value} (hd : decode M.2.1 pc = .ok (.getfield idx, 3)) (hp : pc + 3 = pc') (hk : (kd a).1 = ci) (hci : ci ≤ 10) (hcl : vwCl[ci]? = some (C, T, N)) (hin : ∀ w ∈ u_ws C T N, w ∈ zTb) (hj : j < N) (hl : Cond.fieldLink M.1.cls idx ref (T j).2.1 (T j).2.2.1 ∈ zTb) (hr : (T j).1 = ref) (hv : (zO E ci a (σ.1 a) (σ.2.1 a) (σ.2.2 a))[j]? = some v)
    (k : At E M d Q pc' ls (v :: st) σ) : At E M d Q pc ls (zr E a :: st) σ := by
  subst hp
  intro p e s m args below meth c H locs la hX hP hS hla
  exact va_get hX.1 hX.2.1 hX.2.2.2.2.2.2.1 hin hX.2.2.2.2.2.1 hX.2.2.2.2.2.2.2 hP a ((zW_get E σ (kd_lt (by omega))).trans (by rw [zC_obj hk hci])) hcl j hj (hX.2.2.2.2.2.2.1 _ hl) (fun x hx => by rw [← hr]; exact hx) hv hd (k p e s m args below meth c H locs la hX hP hS hla)
theorem z_getfN (pc' : Nat) {a ci j idx N : Nat} {T : u_T} {C ref host : String} {v : Value} (hd : decode M.2.1 pc = .ok (.getfield idx, 3)) (hp : pc + 3 = pc') (hk : (kd a).1 = ci) (hci : ci ≤ 10) (hcl : vwCl[ci]? = some (C, T, N)) (hin : ∀ w ∈ u_ws C T N, w ∈ zTb) (hj : j < N) (hl : Cond.fieldLinkNest M.1.cls idx ref (T j).2.1 (T j).2.2.1 host ∈ zTb) (hr : (T j).1 = ref) (hv : (zO E ci a (σ.1 a) (σ.2.1 a) (σ.2.2 a))[j]? = some v)
    (k : At E M d Q pc' ls (v :: st) σ) : At E M d Q pc ls (zr E a :: st) σ := by
  subst hp
  intro p e s m args below meth c H locs la hX hP hS hla
  exact va_getN hX.1 hX.2.1 hX.2.2.2.2.2.2.1 hin hX.2.2.2.2.2.1 hX.2.2.2.2.2.2.2 hP a ((zW_get E σ (kd_lt (by omega))).trans (by rw [zC_obj hk hci])) hcl j hj (hX.2.2.2.2.2.2.1 _ hl) (fun x hx => by rw [← hr]; exact hx) hv hd (k p e s m args below meth c H locs la hX hP hS hla)
theorem z_putf (pc' : Nat) {a ci j idx N : Nat} {T : u_T} {C ref : String} {v : Value} {ty : FieldType} (τ : zM) (ty0 : Nat → FieldType) (hty : ∀ k, k < N → parseFieldDescriptor (T k).2.2.1 = some (ty0 k)) (hnm : ∀ a, a < N → ∀ b, b < N → a ≠ b → (T a).2.1 ≠ (T b).2.1) (hd : decode M.2.1 pc = .ok (.putfield idx, 3)) (hp : pc + 3 = pc') (hk : (kd a).1 = ci) (hci : ci ≤ 10) (hcl : vwCl[ci]? = some (C, T, N)) (hin : ∀ w ∈ u_ws C T N, w ∈ zTb) (hj : j < N) (hl : Cond.fieldLink M.1.cls idx ref (T j).2.1 (T j).2.2.1 ∈ zTb) (hr : (T j).1 = ref) (hfin : (T j).2.2.2 = false) (hpd : parseFieldDescriptor (T j).2.2.1 = some ty) (hn : narrow ty v = v) (hfit : fits ty v = true) (hlen : j < (zO E ci a (σ.1 a) (σ.2.1 a) (σ.2.2 a)).length)
    (hτ : ∀ x, x ≠ a → σ.1 x = τ.1 x ∧ σ.2.1 x = τ.2.1 x ∧ σ.2.2 x = τ.2.2 x) (hset : zO E ci a (τ.1 a) (τ.2.1 a) (τ.2.2 a) = (zO E ci a (σ.1 a) (σ.2.1 a) (σ.2.2 a)).set j v)
    (k : At E M d Q pc' ls st τ) : At E M d Q pc ls (v :: zr E a :: st) σ := by
  subst hp
  intro p e s m args below meth c H locs la hX hP hS hla
  have hlt : a < 125 := kd_lt (by omega)
  refine va_put hX.1 hX.2.1 hX.2.2.2.2.2.2.1 hin ty0 hty hnm hX.2.2.2.2.2.1 hX.2.2.2.2.2.2.2 hP (zW_D E σ) hS a ((zW_get E σ hlt).trans (by rw [zC_obj hk hci])) hcl j hj (hX.2.2.2.2.2.2.1 _ hl) (fun x hx => by rw [← hr]; exact hx) hfin hpd hn hfit hlen hd (fun H1 locs1 hP1 hD1 hS1 => ?_)
  rw [zW_set E (σ := σ) (τ := τ) hlt hτ (by rw [zC_obj hk hci, hset])] at hP1
  exact k p e s m args below meth c H1 locs1 la hX hP1 hS1 hla
theorem z_putfN (pc' : Nat) {a ci j idx N : Nat} {T : u_T} {C ref host : String} {v : Value} {ty : FieldType} (τ : zM) (ty0 : Nat → FieldType) (hty : ∀ k, k < N → parseFieldDescriptor (T k).2.2.1 = some (ty0 k)) (hnm : ∀ a, a < N → ∀ b, b < N → a ≠ b → (T a).2.1 ≠ (T b).2.1) (hd : decode M.2.1 pc = .ok (.putfield idx, 3)) (hp : pc + 3 = pc') (hk : (kd a).1 = ci) (hci : ci ≤ 10) (hcl : vwCl[ci]? = some (C, T, N)) (hin : ∀ w ∈ u_ws C T N, w ∈ zTb) (hj : j < N) (hl : Cond.fieldLinkNest M.1.cls idx ref (T j).2.1 (T j).2.2.1 host ∈ zTb) (hr : (T j).1 = ref) (hfin : (T j).2.2.2 = false) (hpd : parseFieldDescriptor (T j).2.2.1 = some ty) (hn : narrow ty v = v) (hfit : fits ty v = true) (hlen : j < (zO E ci a (σ.1 a) (σ.2.1 a) (σ.2.2 a)).length)
    (hτ : ∀ x, x ≠ a → σ.1 x = τ.1 x ∧ σ.2.1 x = τ.2.1 x ∧ σ.2.2 x = τ.2.2 x) (hset : zO E ci a (τ.1 a) (τ.2.1 a) (τ.2.2 a) = (zO E ci a (σ.1 a) (σ.2.1 a) (σ.2.2 a)).set j v)
    (k : At E M d Q pc' ls st τ) : At E M d Q pc ls (v :: zr E a :: st) σ := by
  subst hp
  intro p e s m args below meth c H locs la hX hP hS hla
  have hlt : a < 125 := kd_lt (by omega)
  refine va_putN hX.1 hX.2.1 hX.2.2.2.2.2.2.1 hin ty0 hty hnm hX.2.2.2.2.2.1 hX.2.2.2.2.2.2.2 hP (zW_D E σ) hS a ((zW_get E σ hlt).trans (by rw [zC_obj hk hci])) hcl j hj (hX.2.2.2.2.2.2.1 _ hl) (fun x hx => by rw [← hr]; exact hx) hfin hpd hn hfit hlen hd (fun H1 locs1 hP1 hD1 hS1 => ?_)
  rw [zW_set E (σ := σ) (τ := τ) hlt hτ (by rw [zC_obj hk hci, hset])] at hP1
  exact k p e s m args below meth c H1 locs1 la hX hP1 hS1 hla
theorem zh_si (σ : zM) (a j : Nat) (v : Int32) : ∀ x, x ≠ a → σ.1 x = (si σ a j v).1 x ∧ σ.2.1 x = (si σ a j v).2.1 x ∧ σ.2.2 x = (si σ a j v).2.2 x := fun x hx => ⟨by simp [si, zu, hx], rfl, rfl⟩
theorem zh_sl (σ : zM) (a j : Nat) (v : Int64) : ∀ x, x ≠ a → σ.1 x = (sl σ a j v).1 x ∧ σ.2.1 x = (sl σ a j v).2.1 x ∧ σ.2.2 x = (sl σ a j v).2.2 x := fun x hx => ⟨rfl, by simp [sl, zu, hx], rfl⟩
theorem zh_sr (σ : zM) (a j : Nat) (v : Nat) : ∀ x, x ≠ a → σ.1 x = (sr σ a j v).1 x ∧ σ.2.1 x = (sr σ a j v).2.1 x ∧ σ.2.2 x = (sr σ a j v).2.2 x := fun x hx => ⟨rfl, rfl, by simp [sr, zu, hx]⟩
/-- Math.max, min; System.arraycopy -/
theorem z_mmax (pc' : Nat) {idx : Nat} {x y : Int32} (hd : decode M.2.1 pc = .ok (.invokestatic idx, 3)) (hp : pc + 3 = pc') (hl : Cond.methodLink M.1.cls idx Lib.Math.max.name ∈ zTb) (hs : Cond.static Lib.Math.max.name ∈ zTb) (hi : Cond.initialized "java/lang/Math" ∈ zTb) (hc : Cond.code Lib.Math.max.name Lib.Math.max.code 2 (some .int) ∈ zTb) (hst : (st.map fun v => v.category).sum ≤ 40) (k : At E M d Q pc' ls (.int (if x < y then y else x) :: st) σ) : At E M d Q pc ls (.int y :: .int x :: st) σ := by
  subst hp
  intro p e s m args below meth c H locs la hX hP hS hla
  have ht := hX.2.2.2.2.2.2.1
  exact va_mmax hX.1 hX.2.1 (hX.2.2.1.trans hla.1.symm) hX.2.2.2.2.2.1 (ht _ hl) (ht _ hs) (ht _ hi) (ht _ hc) (by show 1 ≤ d + 1; omega) (by show _ ≤ 64 * (d + 1); omega) (Nat.le_refl 0) (Nat.le_refl 0) hd (k p e s m args below meth c H locs la hX hP hS hla)
theorem z_mmin (pc' : Nat) {idx : Nat} {x y : Int32} (hd : decode M.2.1 pc = .ok (.invokestatic idx, 3)) (hp : pc + 3 = pc') (hl : Cond.methodLink M.1.cls idx Lib.Math.min.name ∈ zTb) (hs : Cond.static Lib.Math.min.name ∈ zTb) (hi : Cond.initialized "java/lang/Math" ∈ zTb) (hc : Cond.code Lib.Math.min.name Lib.Math.min.code 2 (some .int) ∈ zTb) (hst : (st.map fun v => v.category).sum ≤ 40) (k : At E M d Q pc' ls (.int (if y < x then y else x) :: st) σ) : At E M d Q pc ls (.int y :: .int x :: st) σ := by
  subst hp
  intro p e s m args below meth c H locs la hX hP hS hla
  have ht := hX.2.2.2.2.2.2.1
  exact va_mmin hX.1 hX.2.1 (hX.2.2.1.trans hla.1.symm) hX.2.2.2.2.2.1 (ht _ hl) (ht _ hs) (ht _ hi) (ht _ hc) (by show 1 ≤ d + 1; omega) (by show _ ≤ 64 * (d + 1); omega) (Nat.le_refl 0) (Nat.le_refl 0) hd (k p e s m args below meth c H locs la hX hP hS hla)
theorem z_copy (pc' : Nat) {idx a0 a n0 n1 : Nat} {sp dp n : Int32} (hd : decode M.2.1 pc = .ok (.invokestatic idx, 3)) (hp : pc + 3 = pc') (hl : Cond.methodLink M.1.cls idx arraycopyName ∈ zTb) (hnat : Cond.native arraycopyName ∈ zTb) (hs : Cond.static arraycopyName ∈ zTb) (hi : Cond.initialized "java/lang/System" ∈ zTb) (hk0 : kd a0 = (11, n0)) (hk1 : kd a = (11, n1)) (h1 : ¬ sp < 0) (h2 : ¬ dp < 0) (h3 : ¬ n < 0) (h4 : sp.toNatClampNeg + n.toNatClampNeg ≤ n0) (h5 : dp.toNatClampNeg + n.toNatClampNeg ≤ n1) (hst : (st.map fun v => v.category).sum ≤ 20)
    (k : At E M d Q pc' ls st (sf σ a (va_cpy (σ.1 a0) (σ.1 a) sp.toNatClampNeg dp.toNatClampNeg n.toNatClampNeg))) : At E M d Q pc ls (.int n :: .int dp :: zr E a :: .int sp :: zr E a0 :: st) σ := by
  subst hp
  intro p e s m args below meth c H locs la hX hP hS hla
  have ht := hX.2.2.2.2.2.2.1
  have hlt0 : a0 < 125 := kd_lt (by rw [hk0]; exact (by decide : (11 : Nat) ≠ 99))
  have hlt : a < 125 := kd_lt (by rw [hk1]; exact (by decide : (11 : Nat) ≠ 99))
  refine va_copyi hX.1 hX.2.1 (hX.2.2.1.trans hla.1.symm) hX.2.2.2.2.2.1 (ht _ hl) (ht _ hnat) (ht _ hs) (ht _ hi) hX.2.2.2.2.2.2.2 hP (zW_D E σ) hS a0 a 0 0 ((zW_get E σ hlt0).trans (by rw [zC_int hk0])) ((zW_get E σ hlt).trans (by rw [zC_int hk1])) rfl rfl rfl h1 h2 h3 h4 h5 (fun _ _ => rfl) (by show 1 ≤ d + 1; omega) (by
    have hw : nativeFrameWords "java/lang/System" "arraycopy" 5 ≤ 30 := by decide +kernel
    show _ ≤ 64 * (d + 1)
    omega) hd (fun H1 locs1 hP1 hD1 hS1 => ?_)
  rw [zW_set E (σ := σ) (τ := sf σ a (va_cpy (σ.1 a0) (σ.1 a) sp.toNatClampNeg dp.toNatClampNeg n.toNatClampNeg)) hlt (fun y hy => ⟨by simp [sf, zu, hy], rfl, rfl⟩) (by rw [zC_int hk1]; simp [sf, zu])] at hP1
  exact k p e s m args below meth c H1 locs1 la hX hP1 hS1 hla
/-- calls -/
def zCal (M : zY) (n : Nat) : Prop := Cond.code M.1 M.2.1 M.2.2.1 M.2.2.2 ∈ zTb ∧ Cond.initialized M.1.cls ∈ zTb ∧ (M.1.cls ≠ "java/lang/invoke/MethodHandle" ∧ M.1.cls ≠ "java/lang/invoke/VarHandle") ∧ (parseMethodDescriptor M.1.desc).map (fun d => d.parameters.length) = some n ∧ M.2.2.1 ≤ 45
def zCalV (M : zY) (n ci : Nat) : Prop := zCal M n ∧ Cond.instanceMethod M.1 ∈ zTb ∧ Cond.selects M.1.cls M.1 M.1 ∈ zTb ∧ ci ≤ 10 ∧ ∃ (T : u_T) (N : Nat), vwCl[ci]? = some (M.1.cls, T, N)
def zCalS (M : zY) (n : Nat) : Prop := zCal M n ∧ Cond.static M.1 ∈ zTb
theorem z_after {p : Program} {e : Env} {s : State} {m : MethodId} {args : Array Value} {below : List Frame} {meth : Method} {c : Code} {H : Heap} {locs : List Loc} {la : Array Slot} {R : Room} {Z : State → Prop} {Q' : Option Value → zM → Prop} {st0 rest : List Value} {a : Array Value} {H0 : Heap}
    (hr : va_Run p E.1 e R s m args below meth c H locs 0 0 0 0 (F0 m pc la st0) rest (zQ E Q' a) (zA E)) (hS : va_S (zA E) H0 H locs)
    (kk : ∀ (v : Option Value) (τ : zM) (H1 : Heap) (locs1 : List Loc), Q' v τ → va_P (zD E) vwCl (zW E τ) H1 → va_S (zA E) H0 H1 locs1 → W p E.1 e R s m args below meth c H1 locs1 0 0 Z (F0 m (pc + 3) la (v.toList ++ rest))) : W p E.1 e R s m args below meth c H locs 0 0 Z (F0 m pc la st0) := by
  intro T hT X
  obtain ⟨v, st₀, t, T', L, h0, X', hL, e1, e2, ⟨⟨v', τ, hv, hq, hP, hK⟩, hz, hk⟩, stp⟩ := hr T hT X
  cases hv
  rw [h0] at hz hk
  obtain ⟨t2, a1, b1⟩ := kk v τ T'.heap (locs ++ L) hq (by rw [e1]; exact hP)
    ⟨Nat.le_trans hS.1 (by rw [e1]; exact hz), fun q h1 h2 => by rw [e1, hk q (Nat.lt_of_lt_of_le h1 hS.1) h2]; exact hS.2.1 q h1 h2, fun q hq => by
      rcases List.mem_append.mp hq with h | h
      · exact hS.2.2 q h
      · exact hL q h⟩ T' rfl X'
  exact ⟨t2, stp t2 a1, b1⟩
theorem z_pay' {s : State} {args : Array Value} {M' : zY} (hc : Cond.code M'.1 M'.2.1 M'.2.2.1 M'.2.2.2 ∈ zTb) (hts : ∀ w ∈ zTb, w.before args s = true) : ∀ w ∈ zws M', ∀ (a' : Array Value) (U : State), s.WarmedH U.vm → w.before a' U = true := by
  intro w hw
  rcases List.mem_cons.mp hw with rfl | h
  · exact z_pay hts _ hc
  · exact z_pay hts _ h
theorem z_callV (pc' : Nat) {M' : zY} {idx n ci a : Nat} {As rest : List Value} {Q' : Option Value → zM → Prop} (hR : Ret E M' d (zr E a :: As) σ Q') (hc : zCalV M' n ci) (hd : decode M.2.1 pc = .ok (.invokevirtual idx, 3)) (hp : pc + 3 = pc') (hl : Cond.methodLink M.1.cls idx M'.1 ∈ zTb) (hk : (kd a).1 = ci) (hn : As.length = n) (hst : st = As.reverse ++ zr E a :: rest) (hw : (rest.map fun v => v.category).sum ≤ 8)
    (k : ∀ (v : Option Value) (τ : zM), Q' v τ → At E M (d + 1) Q pc' ls (v.toList ++ rest) τ) : At E M (d + 1) Q pc ls st σ := by
  subst hp
  intro p e s m args below meth c H locs la hX hP hS hla
  obtain ⟨⟨c1, c2, c3, c4, c5⟩, c6, c7, c8, T, N, c9⟩ := hc
  have ht := hX.2.2.2.2.2.2.1
  have hlt : a < 125 := kd_lt (by omega)
  refine z_after (st0 := st) (rest := rest) (va_runV (Ts := zTb) (As := As) (b := E.2.1 + a) (n := n) ⟨hX.1, hX.2.1, hX.2.2.1, hX.2.2.2.2.2.1, ht⟩ hR ⟨⟨rfl, rfl, Nat.le_refl _, by show 8 + (M'.2.2.1 + 11) + 64 * (d + 1) ≤ 64 * (d + 1 + 1); omega, z_pay' c1 ht, List.mem_cons_self, ht _ c1, ht _ c2, c3, fun sig h => by rw [h] at c4; exact (Option.some.inj c4).symm, ht _ hl⟩, ht _ c6, ht _ c7⟩ ⟨z_blind _ _ _, va_recv hX.2.2.2.2.2.2.2 hP c9 ((zW_get E σ hlt).trans (by rw [zC_obj hk c8])), fun U hU hW => ⟨rfl, by rw [hU]; exact hP, va_K.moved hW.alike hX.2.2.2.2.2.2.2⟩⟩ rfl hn hla.1 hst (lv_room hw) hd ⟨Nat.le_refl 0, Nat.le_refl 0⟩) hS (fun v τ H1 locs1 hq hP1 hS1 => ?_)
  exact k v τ hq p e s m args below meth c H1 locs1 la hX hP1 hS1 hla
theorem z_callVN (pc' : Nat) {M' : zY} {idx n ci a : Nat} {host : String} {As rest : List Value} {Q' : Option Value → zM → Prop} (hR : Ret E M' d (zr E a :: As) σ Q') (hc : zCalV M' n ci) (hd : decode M.2.1 pc = .ok (.invokevirtual idx, 3)) (hp : pc + 3 = pc') (hl : Cond.methodLinkNest M.1.cls idx M'.1 host ∈ zTb) (hk : (kd a).1 = ci) (hn : As.length = n) (hst : st = As.reverse ++ zr E a :: rest) (hw : (rest.map fun v => v.category).sum ≤ 8)
    (k : ∀ (v : Option Value) (τ : zM), Q' v τ → At E M (d + 1) Q pc' ls (v.toList ++ rest) τ) : At E M (d + 1) Q pc ls st σ := by
  subst hp
  intro p e s m args below meth c H locs la hX hP hS hla
  obtain ⟨⟨c1, c2, c3, c4, c5⟩, c6, c7, c8, T, N, c9⟩ := hc
  have ht := hX.2.2.2.2.2.2.1
  have hlt : a < 125 := kd_lt (by omega)
  refine z_after (st0 := st) (rest := rest) (va_runVN (Ts := zTb) (As := As) (b := E.2.1 + a) (n := n) (host := host) ⟨hX.1, hX.2.1, hX.2.2.1, hX.2.2.2.2.2.1, ht⟩ hR ⟨⟨⟨rfl, rfl, Nat.le_refl _, by show 8 + (M'.2.2.1 + 11) + 64 * (d + 1) ≤ 64 * (d + 1 + 1); omega, z_pay' c1 ht, List.mem_cons_self⟩, ht _ c1, ht _ c2, c3, fun sig h => by rw [h] at c4; exact (Option.some.inj c4).symm, ht _ hl⟩, ht _ c6, ht _ c7⟩ ⟨z_blind _ _ _, va_recv hX.2.2.2.2.2.2.2 hP c9 ((zW_get E σ hlt).trans (by rw [zC_obj hk c8])), fun U hU hW => ⟨rfl, by rw [hU]; exact hP, va_K.moved hW.alike hX.2.2.2.2.2.2.2⟩⟩ rfl hn hla.1 hst (lv_room hw) hd ⟨Nat.le_refl 0, Nat.le_refl 0⟩) hS (fun v τ H1 locs1 hq hP1 hS1 => ?_)
  exact k v τ hq p e s m args below meth c H1 locs1 la hX hP1 hS1 hla
theorem z_callS (pc' : Nat) {M' : zY} {idx n : Nat} {As rest : List Value} {Q' : Option Value → zM → Prop} (hR : Ret E M' d As σ Q') (hc : zCalS M' n) (hd : decode M.2.1 pc = .ok (.invokestatic idx, 3)) (hp : pc + 3 = pc') (hl : Cond.methodLink M.1.cls idx M'.1 ∈ zTb) (hn : As.length = n) (hst : st = As.reverse ++ rest) (hw : (rest.map fun v => v.category).sum ≤ 8)
    (k : ∀ (v : Option Value) (τ : zM), Q' v τ → At E M (d + 1) Q pc' ls (v.toList ++ rest) τ) : At E M (d + 1) Q pc ls st σ := by
  subst hp
  intro p e s m args below meth c H locs la hX hP hS hla
  obtain ⟨⟨c1, c2, c3, c4, c5⟩, c6⟩ := hc
  have ht := hX.2.2.2.2.2.2.1
  refine z_after (st0 := st) (rest := rest) (va_runS (Ts := zTb) (As := As) (n := n) ⟨hX.1, hX.2.1, hX.2.2.1, hX.2.2.2.2.2.1, ht⟩ hR ⟨⟨rfl, rfl, Nat.le_refl _, by show 8 + (M'.2.2.1 + 11) + 64 * (d + 1) ≤ 64 * (d + 1 + 1); omega, z_pay' c1 ht, List.mem_cons_self, ht _ c1, ht _ c2, c3, fun sig h => by rw [h] at c4; exact (Option.some.inj c4).symm, ht _ hl⟩, ht _ c6⟩ ⟨z_blind _ _ _, fun U hU hW => ⟨rfl, by rw [hU]; exact hP, va_K.moved hW.alike hX.2.2.2.2.2.2.2⟩⟩ rfl hn hla.1 hst (lv_room hw) hd ⟨Nat.le_refl 0, Nat.le_refl 0⟩) hS (fun v τ H1 locs1 hq hP1 hS1 => ?_)
  exact k v τ hq p e s m args below meth c H1 locs1 la hX hP1 hS1 hla
theorem z_callSN (pc' : Nat) {M' : zY} {idx n : Nat} {host : String} {As rest : List Value} {Q' : Option Value → zM → Prop} (hR : Ret E M' d As σ Q') (hc : zCalS M' n) (hd : decode M.2.1 pc = .ok (.invokestatic idx, 3)) (hp : pc + 3 = pc') (hl : Cond.methodLinkNest M.1.cls idx M'.1 host ∈ zTb) (hn : As.length = n) (hst : st = As.reverse ++ rest) (hw : (rest.map fun v => v.category).sum ≤ 8)
    (k : ∀ (v : Option Value) (τ : zM), Q' v τ → At E M (d + 1) Q pc' ls (v.toList ++ rest) τ) : At E M (d + 1) Q pc ls st σ := by
  subst hp
  intro p e s m args below meth c H locs la hX hP hS hla
  obtain ⟨⟨c1, c2, c3, c4, c5⟩, c6⟩ := hc
  have ht := hX.2.2.2.2.2.2.1
  refine z_after (st0 := st) (rest := rest) (va_runSN (Ts := zTb) (As := As) (n := n) (host := host) ⟨hX.1, hX.2.1, hX.2.2.1, hX.2.2.2.2.2.1, ht⟩ hR ⟨⟨⟨rfl, rfl, Nat.le_refl _, by show 8 + (M'.2.2.1 + 11) + 64 * (d + 1) ≤ 64 * (d + 1 + 1); omega, z_pay' c1 ht, List.mem_cons_self⟩, ht _ c1, ht _ c2, c3, fun sig h => by rw [h] at c4; exact (Option.some.inj c4).symm, ht _ hl⟩, ht _ c6, trivial⟩ ⟨z_blind _ _ _, fun U hU hW => ⟨rfl, by rw [hU]; exact hP, va_K.moved hW.alike hX.2.2.2.2.2.2.2⟩⟩ rfl hn hla.1 hst (lv_room hw) hd ⟨Nat.le_refl 0, Nat.le_refl 0⟩) hS (fun v τ H1 locs1 hq hP1 hS1 => ?_)
  exact k v τ hq p e s m args below meth c H1 locs1 la hX hP1 hS1 hla
end Rows2
