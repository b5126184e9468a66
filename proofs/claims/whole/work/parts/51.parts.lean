/-! parts, few -/
theorem bl_pop (s : Nat) : ∀ k, (bl s k).length = fsum (fun i => if s.testBit i then 1 else 0) k := by
  intro k
  induction k with
  | zero => rfl
  | succ k ih =>
    rw [bl_succ, List.length_append, ih]
    show _ = fsum (fun i => if s.testBit i then 1 else 0) k + if s.testBit k then 1 else 0
    by_cases h : s.testBit k = true
    · rw [if_pos h, if_pos h]; rfl
    · rw [if_neg h, if_neg h]; rfl
theorem bl_popS (s : Nat) : (bl s 10).length = pop s := bl_pop s 10
def blG (s : Nat) : Nat → Nat := fun i => (bl s 10).getD i 0
theorem bl_ok {s : Nat} (h1 : 1 ≤ pop s) (h6 : pop s ≤ 6) : PtsOK (pop s) (blG s) := by
  rw [← bl_popS] at h1 h6 ⊢
  obtain ⟨p, hp⟩ := List.exists_mem_of_length_pos (l := bl s 10) h1
  exact bl_pts ⟨p, (bl_mem s 10 p).mp hp⟩ h6
/-- the share of a word, of one's guess at a set of parts by nobody known -/
def bsh (S : sS) (p w s : Nat) : Nat := shN S p (pop s) (blG s) none w
set_option maxRecDepth 20000 in
theorem tX9_shareBySet {E : zE} {d : Nat} {σ : zM} {S : sS} {p w s : Nat} (hW : WF S) (hX : RX S σ) (hp : p < sPc S) (hw : w < sBw S 0) (hs : s < 1024) (h1 : 1 ≤ pop s) (h6 : pop s ≤ 6) : Ret E mX9_shareBySet (d + 3) [zr E 0, zr E (48 + 2 * p), .int (nI s), .int (nI w)] σ (qI fun x τ => x = nI (bsh S p w s) ∧ Fr (fun x y => 8 ≤ x ∧ x ≤ 12) σ τ ∧ RX S τ) := by
  have hb8 := bw_le hW (show 0 < 2 by omega)
  refine Ret.of [some (zr E 0), some (zr E (48 + 2 * p)), some (.int (nI s)), some (.int (nI w))] (by decide +kernel) (Nat.le_of_ble_eq_true rfl) rfl ?_
  refine z_aload_n 1 dX9_shareBySet_0 rfl rfl ?_
  refine gX9_46 4 rfl dX9_shareBySet_1 rfl ?_
  refine z_iload_n 5 dX9_shareBySet_4 rfl rfl ?_
  refine z_cVV1 8 (tX2_takeSet (a := 8) rfl rfl hs (by rw [bl_popS]; exact h6)) kX2_takeSet dX9_shareBySet_5 rfl lX9_417 (by first | assumption | rfl) (Nat.le_of_ble_eq_true rfl) ?_
  rintro τ1 ⟨hF1, hD1⟩
  have hX1 : RX S τ1 := hX.scr hW (hF1.mono (by unfold xS; intros; omega))
  have hD1 : DrG τ1 8 (pop s) (blG s) := by (rw [← bl_popS]; exact hD1)
  refine z_aload_n 9 dX9_shareBySet_8 rfl rfl ?_
  refine gX9_53 12 rfl dX9_shareBySet_9 rfl ?_
  refine z_aload_n 13 dX9_shareBySet_12 rfl rfl ?_
  refine z_aload_n 14 dX9_shareBySet_13 rfl rfl ?_
  refine gX9_46 17 rfl dX9_shareBySet_14 rfl ?_
  refine z_null 18 dX9_shareBySet_17 rfl ?_
  refine z_cVV3 21 (tX6_reckonS (o := none) hW hX1 hp hD1 (bl_ok h1 h6) ByV.none) kX6_reckon dX9_shareBySet_18 rfl lX9_225 (by first | assumption | rfl) (Nat.le_of_ble_eq_true rfl) ?_
  rintro τ2 ⟨hF2, hX2, hS2⟩
  refine z_aload_n 22 dX9_shareBySet_21 rfl rfl ?_
  refine gX9_53 25 rfl dX9_shareBySet_22 rfl ?_
  refine z_iload_n 26 dX9_shareBySet_25 rfl rfl ?_
  refine z_cVI1 29 (tX6_get hb8 hS2.1 hw) kX6_get dX9_shareBySet_26 rfl lX9_197 (by first | assumption | rfl) (Nat.le_of_ble_eq_true rfl) ?_
  rintro _ _ ⟨e1, e2⟩
  replace e1 := e1.symm
  replace e2 := e2.symm
  subst e1
  subst e2
  rw [hS2.2.2 w hw]
  refine z_ri dX9_shareBySet_29 rfl ?_
  exact ⟨rfl, hF1.tr hF2 (by intros; omega) (by intros; omega), hX2⟩
def ptV (S : sS) (p w : Nat) (b : Option Nat) : Nat := match b with
  | none => 0
  | some e => bsh S p w e + 1
def ptI (S : sS) (p w : Nat) (b : Option Nat) : Int32 := match b with
  | none => -1
  | some e => nI (bsh S p w e)
def ptB (b : Option Nat) : Int32 := match b with
  | none => nI 0
  | some e => nI e
abbrev ptP (S : sS) (p w n i : Nat) (b : Option Nat) : Prop := pop i = n ∧ ptV S p w b < bsh S p w i + 1
def ptO (S : sS) (p w n : Nat) : Nat → Option Nat
  | 0 => none
  | i + 1 => if ptP S p w n i (ptO S p w n i) then some i else ptO S p w n i
theorem ptO_y {S : sS} {p w n i : Nat} (h : ptP S p w n i (ptO S p w n i)) : ptO S p w n (i + 1) = some i := if_pos h
theorem ptO_n {S : sS} {p w n i : Nat} (h : ¬ ptP S p w n i (ptO S p w n i)) : ptO S p w n (i + 1) = ptO S p w n i := if_neg h
theorem pt_cmp {S : sS} (hW : WF S) {p w i : Nat} (hp : p < sPc S) (hw : w < sBw S 0) (b : Option Nat) : nI (bsh S p w i) ≤ ptI S p w b ↔ ¬ ptV S p w b < bsh S p w i + 1 := by
  have h1 : bsh S p w i ≤ 24 := shN_le hW hp _ _ none hw
  cases b with
  | none =>
    constructor
    · intro h
      have h2 : (0 : Int32) ≤ nI (bsh S p w i) := nI_pos' (by omega)
      exact absurd (Int32.le_trans h2 h) (by decide : ¬ (0 : Int32) ≤ -1)
    · intro h
      exact absurd (show 0 < bsh S p w i + 1 by omega) h
  | some e =>
    have h2 : bsh S p w e ≤ 24 := shN_le hW hp _ _ none hw
    show nI (bsh S p w i) ≤ nI (bsh S p w e) ↔ ¬ bsh S p w e + 1 < bsh S p w i + 1
    rw [nI_leI (by omega) (by omega)]
    omega
abbrev ptOK (S : sS) (p w n : Int32) (m : Nat) : Prop := inN p (sPc S) ∧ inN w (sBw S 0) ∧ nI 1 ≤ n ∧ n ≤ nI m
def ptR (S : sS) (p w n m : Nat) : Int32 × sS := sAsk S (ptI S p w (ptO S p w n m)) (ptB (ptO S p w n m))
def spParts (S : sS) (p w n : Int32) : Int32 × sS := if ¬ ptOK S p w n 6 then (-1, S) else ptR S (zx p) (zx w) (zx n) 1024
set_option maxRecDepth 20000 in
theorem tX9_parts {E : zE} {d : Nat} {σ : zM} {S : sS} {p w n : Int32} (hW : WF S) (hX : RX S σ) : Ret E mX9_parts (d + 4) [zr E 0, .int p, .int w, .int n] σ (qX σ (spParts S p w n)) := by
  have h8 := hW.2.1.1
  have hb8 := bw_le hW (show 0 < 2 by omega)
  by_cases hA : ¬ ptOK S p w n 6
  · refine Ret.of [some (zr E 0), some (.int p), some (.int w), some (.int n), none, none, none, none] (by decide +kernel) (Nat.le_of_ble_eq_true rfl) rfl ?_
    refine z_aload_n 1 dX9_parts_0 rfl rfl ?_
    refine z_iload_n 2 dX9_parts_1 rfl rfl ?_
    refine z_cVI1 5 (tX9_isPl (by assumption) (by assumption)) kX9_isPlayer dX9_parts_2 rfl lX9_176 (by first | assumption | rfl) (Nat.le_of_ble_eq_true rfl) ?_
    rintro _ _ ⟨e1, e2⟩
    replace e1 := e1.symm
    replace e2 := e2.symm
    subst e1
    subst e2
    refine z_ifb_eq 27 8 dX9_parts_5 (by decide) rfl (fun h5 => ?_) (fun h5 => ?_)
    · refine z_iconst 28 (v := (-1)) dX9_parts_27 rfl rfl ?_
      refine z_ri dX9_parts_28 rfl ?_
      exact qx0 (if_pos hA) hX Fr.rf
    · refine z_aload_n 9 dX9_parts_8 rfl rfl ?_
      refine z_iload_n 10 dX9_parts_9 rfl rfl ?_
      refine z_cVI1 13 (tX9_isWord (by assumption) (by assumption)) kX9_isWord dX9_parts_10 rfl lX9_165 (by first | assumption | rfl) (Nat.le_of_ble_eq_true rfl) ?_
      rintro _ _ ⟨e1, e2⟩
      replace e1 := e1.symm
      replace e2 := e2.symm
      subst e1
      subst e2
      refine z_ifb_eq 27 16 dX9_parts_13 (by decide) rfl (fun h13 => ?_) (fun h13 => ?_)
      · refine z_iconst 28 (v := (-1)) dX9_parts_27 rfl rfl ?_
        refine z_ri dX9_parts_28 rfl ?_
        exact qx0 (if_pos hA) hX Fr.rf
      · refine z_iload_n 17 dX9_parts_16 rfl rfl ?_
        refine z_iconst 18 (v := nI 1) dX9_parts_17 rfl rfl ?_
        refine z_icmp_lt 27 21 dX9_parts_18 (by decide) rfl (fun h18 => ?_) (fun h18 => ?_)
        · refine z_iconst 28 (v := (-1)) dX9_parts_27 rfl rfl ?_
          refine z_ri dX9_parts_28 rfl ?_
          exact qx0 (if_pos hA) hX Fr.rf
        · refine z_iload_n 22 dX9_parts_21 rfl rfl ?_
          refine z_bipush 24 (v := nI 6) dX9_parts_22 rfl rfl ?_
          refine z_icmp_le 29 27 dX9_parts_24 (by decide) rfl (fun h24 => ?_) (fun h24 => ?_)
          · exact absurd ⟨h5, h13, Int32.not_lt.mp h18, h24⟩ hA
          · refine z_iconst 28 (v := (-1)) dX9_parts_27 rfl rfl ?_
            refine z_ri dX9_parts_28 rfl ?_
            exact qx0 (if_pos hA) hX Fr.rf
  have e0 : spParts S p w n = _ := if_neg hA
  have hA := Classical.not_not.mp hA
  have hA' := hA
  obtain ⟨a1, a2, a3, a4⟩ := hA
  obtain ⟨p, hp, rfl⟩ := inN_of a1
  obtain ⟨w, hw, rfl⟩ := inN_of a2
  obtain ⟨n, hn1, hn6, rfl⟩ := in15 (by decide) (by decide) ⟨a3, a4⟩
  obtain ⟨b1, b2, b3, b4⟩ := hA'
  rw [zx_nI (by omega), zx_nI (by omega), zx_nI (by omega)] at e0
  have hcp := kd_p (show p < 8 by omega)
  have loop : ∀ i, i ≤ 1024 → ∀ y τ, Fr (fun x y => 8 ≤ x ∧ x ≤ 12) σ τ → RX S τ → At E mX9_parts (d + 4) (qX σ (spParts S (nI p) (nI w) (nI n))) 38 [some (zr E 0), some (.int (nI p)), some (.int (nI w)), some (.int (nI n)), some (.int (ptB (ptO S p w n i))), some (.int (ptI S p w (ptO S p w n i))), some (.int (nI i)), y] [] τ := by
    refine z_up (fun i hi ih y τ hF hR => ?_)
    by_cases hie : i = 1024
    · rw [hie]
      refine z_iload 40 dX9_parts_38 rfl rfl ?_
      refine z_sipush 43 (v := nI 1024) dX9_parts_40 rfl rfl ?_
      refine z_icmp_ge 94 46 dX9_parts_43 (by decide) rfl (fun h43 => ?_) (fun h43 => ?_)
      · (try rw [nI_leI (by omega) (by omega)] at h43)
        refine z_aload_n 95 dX9_parts_94 rfl rfl ?_
        refine gX9_39 98 rfl dX9_parts_95 rfl ?_
        refine z_iload 100 dX9_parts_98 rfl rfl ?_
        refine z_cVI1 103 (tX0_ask) kX0_ask dX9_parts_100 rfl lX9_104 (by first | assumption | rfl) (Nat.le_of_ble_eq_true rfl) ?_
        rintro _ _ ⟨e1, e2⟩
        replace e1 := e1.symm
        replace e2 := e2.symm
        subst e1
        subst e2
        refine z_pop 104 dX9_parts_103 rfl rfl ?_
        refine z_iload 106 dX9_parts_104 rfl rfl ?_
        refine z_ri dX9_parts_106 rfl ?_
        exact qxa hW e0 hR (hF.mono (by intros; omega))
      · (try rw [nI_leI (by omega) (by omega)] at h43)
        omega
    · have hpl := pop_le i
      refine z_iload 40 dX9_parts_38 rfl rfl ?_
      refine z_sipush 43 (v := nI 1024) dX9_parts_40 rfl rfl ?_
      refine z_icmp_ge 94 46 dX9_parts_43 (by decide) rfl (fun h43 => ?_) (fun h43 => ?_)
      · (try rw [nI_leI (by omega) (by omega)] at h43)
        omega
      · (try rw [nI_leI (by omega) (by omega)] at h43)
        refine z_iload 48 dX9_parts_46 rfl rfl ?_
        refine z_cSI1 51 (tJ6_bitCount_0f7a4 (by omega)) kJ6_bitCount_0f7a4 dX9_parts_48 rfl lX9_284 (Nat.le_of_ble_eq_true rfl) ?_
        rintro _ _ ⟨e1, e2⟩
        replace e1 := e1.symm
        replace e2 := e2.symm
        subst e1
        subst e2
        refine z_iload_n 52 dX9_parts_51 rfl rfl ?_
        refine z_icmp_eq 58 55 dX9_parts_52 (by decide) rfl (fun h52 => ?_) (fun h52 => ?_)
        · (try rw [nI_eq (by omega) (by omega)] at h52)
          refine z_aload_n 59 dX9_parts_58 rfl rfl ?_
          refine z_aload_n 60 dX9_parts_59 rfl rfl ?_
          refine gX9_26 63 rfl dX9_parts_60 rfl ?_
          refine z_iload_n 64 dX9_parts_63 rfl rfl ?_
          refine z_aald4 65 dX9_parts_64 rfl (by omega) ?_
          refine z_iload 67 dX9_parts_65 rfl rfl ?_
          refine z_iload_n 68 dX9_parts_67 rfl rfl ?_
          refine z_cVI3 71 (tX9_shareBySet hW hR hp hw (show i < 1024 by omega) (by omega) (by omega)) kX9_shareBySet dX9_parts_68 rfl lX9_289 (by first | assumption | rfl) (Nat.le_of_ble_eq_true rfl) ?_
          rintro _ τ1 ⟨e1, hF1, hX1⟩
          subst e1
          have hF2 : Fr (fun x y => 8 ≤ x ∧ x ≤ 12) σ τ1 := hF.tr hF1 (fun _ _ h => h) (fun _ _ h => h)
          refine zs_istore_7_8 73 rfl dX9_parts_71 rfl rfl ?_
          refine z_iload 75 dX9_parts_73 rfl rfl ?_
          refine z_iload 77 dX9_parts_75 rfl rfl ?_
          refine z_icmp_le 88 80 dX9_parts_77 (by decide) rfl (fun h77 => ?_) (fun h77 => ?_)
          · have er := ptO_n (S := S) (p := p) (w := w) (n := n) (i := i) (fun z => (pt_cmp hW hp hw _).mp h77 z.2)
            refine zs_iinc_6_8_1 91 rfl dX9_parts_88 rfl rfl ?_
            rw [nI_add]
            refine z_goto 38 dX9_parts_91 rfl ?_
            first
              | (have hih := ih (i + 1) (by omega) (by omega) (some (.int (nI (bsh S p w i)))) τ1 hF2 hX1
                 rw [er] at hih
                 exact hih)
              | (have hih := ih (i + 1) (by omega) (by omega) y τ hF hR
                 rw [er] at hih
                 exact hih)
          · have er := ptO_y (S := S) (p := p) (w := w) (n := n) (i := i) ⟨h52, Classical.not_not.mp (fun z => h77 ((pt_cmp hW hp hw _).mpr z))⟩
            refine z_iload 82 dX9_parts_80 rfl rfl ?_
            refine zs_istore_5_8 84 rfl dX9_parts_82 rfl rfl ?_
            refine z_iload 86 dX9_parts_84 rfl rfl ?_
            refine zs_istore_4_8 88 rfl dX9_parts_86 rfl rfl ?_
            refine zs_iinc_6_8_1 91 rfl dX9_parts_88 rfl rfl ?_
            rw [nI_add]
            refine z_goto 38 dX9_parts_91 rfl ?_
            first
              | (have hih := ih (i + 1) (by omega) (by omega) (some (.int (nI (bsh S p w i)))) τ1 hF2 hX1
                 rw [er] at hih
                 exact hih)
              | (have hih := ih (i + 1) (by omega) (by omega) y τ hF hR
                 rw [er] at hih
                 exact hih)
        · (try rw [nI_eq (by omega) (by omega)] at h52)
          have er := ptO_n (S := S) (p := p) (w := w) (n := n) (i := i) (fun z => h52 z.1)
          refine z_goto 88 dX9_parts_55 rfl ?_
          refine zs_iinc_6_8_1 91 rfl dX9_parts_88 rfl rfl ?_
          rw [nI_add]
          refine z_goto 38 dX9_parts_91 rfl ?_
          first
            | (have hih := ih (i + 1) (by omega) (by omega) (some (.int (nI (bsh S p w i)))) τ1 hF2 hX1
               rw [er] at hih
               exact hih)
            | (have hih := ih (i + 1) (by omega) (by omega) y τ hF hR
               rw [er] at hih
               exact hih)
  have hp0 : ptO S p w n 1 = none := if_neg (fun z => by
    have z1 : pop 0 = n := z.1
    rw [show pop 0 = 0 from by decide] at z1
    omega)
  refine Ret.of [some (zr E 0), some (.int (nI p)), some (.int (nI w)), some (.int (nI n)), none, none, none, none] (by decide +kernel) (Nat.le_of_ble_eq_true rfl) rfl ?_
  refine z_aload_n 1 dX9_parts_0 rfl rfl ?_
  refine z_iload_n 2 dX9_parts_1 rfl rfl ?_
  refine z_cVI1 5 (tX9_isPl (by assumption) (by assumption)) kX9_isPlayer dX9_parts_2 rfl lX9_176 (by first | assumption | rfl) (Nat.le_of_ble_eq_true rfl) ?_
  rintro _ _ ⟨e1, e2⟩
  replace e1 := e1.symm
  replace e2 := e2.symm
  subst e1
  subst e2
  refine z_ifb_eq 27 8 dX9_parts_5 (by decide) rfl (fun h5 => ?_) (fun h5 => ?_)
  · exact absurd b1 h5
  · refine z_aload_n 9 dX9_parts_8 rfl rfl ?_
    refine z_iload_n 10 dX9_parts_9 rfl rfl ?_
    refine z_cVI1 13 (tX9_isWord (by assumption) (by assumption)) kX9_isWord dX9_parts_10 rfl lX9_165 (by first | assumption | rfl) (Nat.le_of_ble_eq_true rfl) ?_
    rintro _ _ ⟨e1, e2⟩
    replace e1 := e1.symm
    replace e2 := e2.symm
    subst e1
    subst e2
    refine z_ifb_eq 27 16 dX9_parts_13 (by decide) rfl (fun h13 => ?_) (fun h13 => ?_)
    · exact absurd b2 h13
    · refine z_iload_n 17 dX9_parts_16 rfl rfl ?_
      refine z_iconst 18 (v := nI 1) dX9_parts_17 rfl rfl ?_
      refine z_icmp_lt 27 21 dX9_parts_18 (by decide) rfl (fun h18 => ?_) (fun h18 => ?_)
      · (try rw [nI_ltI (by omega) (by omega)] at h18)
        omega
      · (try rw [nI_ltI (by omega) (by omega)] at h18)
        refine z_iload_n 22 dX9_parts_21 rfl rfl ?_
        refine z_bipush 24 (v := nI 6) dX9_parts_22 rfl rfl ?_
        refine z_icmp_le 29 27 dX9_parts_24 (by decide) rfl (fun h24 => ?_) (fun h24 => ?_)
        · (try rw [nI_leI (by omega) (by omega)] at h24)
          refine z_iconst 30 (v := nI 0) dX9_parts_29 rfl rfl ?_
          refine zs_istore_4_8 32 rfl dX9_parts_30 rfl rfl ?_
          refine z_iconst 33 (v := (-1)) dX9_parts_32 rfl rfl ?_
          refine zs_istore_5_8 35 rfl dX9_parts_33 rfl rfl ?_
          refine z_iconst 36 (v := nI 1) dX9_parts_35 rfl rfl ?_
          refine zs_istore_6_8 38 rfl dX9_parts_36 rfl rfl ?_
          have hl := loop 1 (by omega) none σ Fr.rf hX
          rw [hp0] at hl
          exact hl
        · (try rw [nI_leI (by omega) (by omega)] at h24)
          omega
set_option maxRecDepth 20000 in
theorem tX10_setFor {E : zE} {d : Nat} {σ : zM} {S : sS} {p w n : Nat} (hW : WF S) (hX : RM S σ) (hp : p < sPc S) (hw : w < sBw S 0) (hn1 : 1 ≤ n) (hn6 : n ≤ 6) : Ret E mX10_setFor (d + 6) [zr E 102, .int (nI p), .int (nI w), .int (nI n)] σ (qI fun x τ => x = ptB (ptO S p w n 1024) ∧ Fr mS σ τ ∧ RM S τ ∧ gi τ 102 31 = ptI S p w (ptO S p w n 1024)) := by
  have h8 := hW.2.1.1
  have hb8 := bw_le hW (show 0 < 2 by omega)
  refine Ret.of [some (zr E 102), some (.int (nI p)), some (.int (nI w)), some (.int (nI n)), none, none] (by decide +kernel) (Nat.le_of_ble_eq_true rfl) rfl ?_
  have loop : ∀ i, i ≤ 1024 → ∀ τ, Fr mS σ τ → RM S τ → gi τ 102 31 = ptI S p w (ptO S p w n i) → At E mX10_setFor (d + 6) (qI fun x τ => x = ptB (ptO S p w n 1024) ∧ Fr mS σ τ ∧ RM S τ ∧ gi τ 102 31 = ptI S p w (ptO S p w n 1024)) 11 [some (zr E 102), some (.int (nI p)), some (.int (nI w)), some (.int (nI n)), some (.int (ptB (ptO S p w n i))), some (.int (nI i))] [] τ := by
    refine z_up (fun i hi ih τ hF hR hV => ?_)
    by_cases hie : i = 1024
    · rw [hie] at hV ⊢
      refine z_iload 13 dX10_setFor_11 rfl rfl ?_
      refine z_sipush 16 (v := nI 1024) dX10_setFor_13 rfl rfl ?_
      refine z_icmp_ge 74 19 dX10_setFor_16 (by decide) rfl (fun h16 => ?_) (fun h16 => ?_)
      · (try rw [nI_leI (by omega) (by omega)] at h16)
        refine z_iload 76 dX10_setFor_74 rfl rfl ?_
        refine z_ri dX10_setFor_76 rfl ?_
        exact ⟨rfl, hF, hR, hV⟩
      · (try rw [nI_leI (by omega) (by omega)] at h16)
        omega
    · have hpl := pop_le i
      refine z_iload 13 dX10_setFor_11 rfl rfl ?_
      refine z_sipush 16 (v := nI 1024) dX10_setFor_13 rfl rfl ?_
      refine z_icmp_ge 74 19 dX10_setFor_16 (by decide) rfl (fun h16 => ?_) (fun h16 => ?_)
      · (try rw [nI_leI (by omega) (by omega)] at h16)
        omega
      · (try rw [nI_leI (by omega) (by omega)] at h16)
        refine z_iload 21 dX10_setFor_19 rfl rfl ?_
        refine z_cSI1 24 (tX10_sizeOf (show i < 1024 by omega)) kX10_sizeOf dX10_setFor_21 rfl lX10_282 (Nat.le_of_ble_eq_true rfl) ?_
        rintro _ _ ⟨e1, e2⟩
        replace e1 := e1.symm
        replace e2 := e2.symm
        subst e1
        subst e2
        refine z_iload_n 25 dX10_setFor_24 rfl rfl ?_
        refine z_icmp_ne 68 28 dX10_setFor_25 (by decide) rfl (fun h25 => ?_) (fun h25 => ?_)
        · (try rw [nI_eq (by omega) (by omega)] at h25)
          have er := ptO_n (S := S) (p := p) (w := w) (n := n) (i := i) (fun z => h25 z.1)
          refine zs_iinc_5_6_1 71 rfl dX10_setFor_68 rfl rfl ?_
          rw [nI_add]
          refine z_goto 11 dX10_setFor_71 rfl ?_
          first
            | (have hih := ih (i + 1) (by omega) (by omega) τ2 hF3 hX2 (by rw [er]; exact hV2)
               rw [er] at hih
               exact hih)
            | (have hf4 : Fr (fun a j => a = 102 ∧ j = 31) τ2 (si τ2 102 31 (nI (bsh S p w i))) := Fr.rf.si _ ⟨rfl, rfl⟩
               have hih := ih (i + 1) (by omega) (by omega) _ (hF3.tr hf4 (fun _ _ h => h) (by unfold mS; intros; omega)) (hX2.scr hW (hf4.mono (by unfold mS; intros; omega))) (by rw [er]; exact gi_s1 _ _ _ _)
               rw [er] at hih
               exact hih)
            | (have hih := ih (i + 1) (by omega) (by omega) τ hF hR (by rw [er]; exact hV)
               rw [er] at hih
               exact hih)
        · (try rw [nI_eq (by omega) (by omega)] at h25)
          refine z_aload_n 29 dX10_setFor_28 rfl rfl ?_
          refine z_iload 31 dX10_setFor_29 rfl rfl ?_
          refine z_cVV1 34 (tX10_seeSet (show i < 1024 by omega) (by rw [bl_popS]; omega)) kX10_seeSet dX10_setFor_31 rfl lX10_196 (by first | assumption | rfl) (Nat.le_of_ble_eq_true rfl) ?_
          rintro τ1 ⟨hF1, hD1⟩
          have hX1 : RM S τ1 := hR.scr hW (hF1.mono (by unfold mS; intros; omega))
          have hD1 : mDrG τ1 (pop i) (blG i) := by (rw [← bl_popS]; exact hD1)
          refine z_aload_n 35 dX10_setFor_34 rfl rfl ?_
          refine z_iload_n 36 dX10_setFor_35 rfl rfl ?_
          refine z_bipush 38 (v := (-9)) dX10_setFor_36 rfl rfl ?_
          refine z_cVV2 41 (tX10_sharesS (o := none) hW hX1 hp hD1 (bl_ok (by omega) (by omega)) mByV.none) kX10_setShares dX10_setFor_38 rfl lX10_193 (by first | assumption | rfl) (Nat.le_of_ble_eq_true rfl) ?_
          rintro τ2 ⟨hF2, hX2, hS2⟩
          have hF3 : Fr mS σ τ2 := (hF.tr hF1 (R := mS) (fun _ _ h => h) (by unfold mS; intros; omega)).tr hF2 (fun _ _ h => h) (by unfold mS; intros; omega)
          have hV2 : gi τ2 102 31 = ptI S p w (ptO S p w n i) := (hF2.gi (by omega)).trans ((hF1.gi (by omega)).trans hV)
          have hsw : gi τ2 115 w = nI (bsh S p w i) := hS2 w hw
          refine z_aload_n 42 dX10_setFor_41 rfl rfl ?_
          refine gX10_50 45 rfl dX10_setFor_42 rfl ?_
          refine z_iload_n 46 dX10_setFor_45 rfl rfl ?_
          refine z_ialdn 47 dX10_setFor_46 rfl (by first | assumption | rfl) (by omega) ?_
          rw [hsw]
          refine z_aload_n 48 dX10_setFor_47 rfl rfl ?_
          refine gX10_279 51 rfl dX10_setFor_48 rfl ?_
          rw [hV2]
          refine z_icmp_le 68 54 dX10_setFor_51 (by decide) rfl (fun h51 => ?_) (fun h51 => ?_)
          · have er := ptO_n (S := S) (p := p) (w := w) (n := n) (i := i) (fun z => (pt_cmp hW hp hw _).mp h51 z.2)
            refine zs_iinc_5_6_1 71 rfl dX10_setFor_68 rfl rfl ?_
            rw [nI_add]
            refine z_goto 11 dX10_setFor_71 rfl ?_
            first
              | (have hih := ih (i + 1) (by omega) (by omega) τ2 hF3 hX2 (by rw [er]; exact hV2)
                 rw [er] at hih
                 exact hih)
              | (have hf4 : Fr (fun a j => a = 102 ∧ j = 31) τ2 (si τ2 102 31 (nI (bsh S p w i))) := Fr.rf.si _ ⟨rfl, rfl⟩
                 have hih := ih (i + 1) (by omega) (by omega) _ (hF3.tr hf4 (fun _ _ h => h) (by unfold mS; intros; omega)) (hX2.scr hW (hf4.mono (by unfold mS; intros; omega))) (by rw [er]; exact gi_s1 _ _ _ _)
                 rw [er] at hih
                 exact hih)
              | (have hih := ih (i + 1) (by omega) (by omega) τ hF hR (by rw [er]; exact hV)
                 rw [er] at hih
                 exact hih)
          · have er := ptO_y (S := S) (p := p) (w := w) (n := n) (i := i) ⟨h25, Classical.not_not.mp (fun z => h51 ((pt_cmp hW hp hw _).mpr z))⟩
            refine z_aload_n 55 dX10_setFor_54 rfl rfl ?_
            refine z_aload_n 56 dX10_setFor_55 rfl rfl ?_
            refine gX10_50 59 rfl dX10_setFor_56 rfl ?_
            refine z_iload_n 60 dX10_setFor_59 rfl rfl ?_
            refine z_ialdn 61 dX10_setFor_60 rfl (by first | assumption | rfl) (by omega) ?_
            rw [hsw]
            refine pX10_279 64 rfl dX10_setFor_61 rfl ?_
            refine z_iload 66 dX10_setFor_64 rfl rfl ?_
            refine zs_istore_4_6 68 rfl dX10_setFor_66 rfl rfl ?_
            refine zs_iinc_5_6_1 71 rfl dX10_setFor_68 rfl rfl ?_
            rw [nI_add]
            refine z_goto 11 dX10_setFor_71 rfl ?_
            first
              | (have hih := ih (i + 1) (by omega) (by omega) τ2 hF3 hX2 (by rw [er]; exact hV2)
                 rw [er] at hih
                 exact hih)
              | (have hf4 : Fr (fun a j => a = 102 ∧ j = 31) τ2 (si τ2 102 31 (nI (bsh S p w i))) := Fr.rf.si _ ⟨rfl, rfl⟩
                 have hih := ih (i + 1) (by omega) (by omega) _ (hF3.tr hf4 (fun _ _ h => h) (by unfold mS; intros; omega)) (hX2.scr hW (hf4.mono (by unfold mS; intros; omega))) (by rw [er]; exact gi_s1 _ _ _ _)
                 rw [er] at hih
                 exact hih)
              | (have hih := ih (i + 1) (by omega) (by omega) τ hF hR (by rw [er]; exact hV)
                 rw [er] at hih
                 exact hih)
  have hp0 : ptO S p w n 1 = none := if_neg (fun z => by
    have z1 : pop 0 = n := z.1
    rw [show pop 0 = 0 from by decide] at z1
    omega)
  refine z_iconst 1 (v := nI 0) dX10_setFor_0 rfl rfl ?_
  refine zs_istore_4_6 3 rfl dX10_setFor_1 rfl rfl ?_
  refine z_aload_n 4 dX10_setFor_3 rfl rfl ?_
  refine z_iconst 5 (v := (-1)) dX10_setFor_4 rfl rfl ?_
  refine pX10_279 8 rfl dX10_setFor_5 rfl ?_
  refine z_iconst 9 (v := nI 1) dX10_setFor_8 rfl rfl ?_
  refine zs_istore_5_6 11 rfl dX10_setFor_9 rfl rfl ?_
  have hf4 : Fr (fun a j => a = 102 ∧ j = 31) σ (si σ 102 31 (-1)) := Fr.rf.si _ ⟨rfl, rfl⟩
  have hl := loop 1 (by omega) _ (hf4.mono (by unfold mS; intros; omega)) (hX.scr hW (hf4.mono (by unfold mS; intros; omega))) (by rw [hp0]; exact gi_s1 _ _ _ _)
  rw [hp0] at hl
  exact hl
set_option maxRecDepth 20000 in
theorem tX10_parts {E : zE} {d : Nat} {σ : zM} {S : sS} {p w n : Int32} (hW : WF S) (hX : RM S σ) : Ret E mX10_parts (d + 7) [zr E 102, .int p, .int w, .int n] σ (qM σ (spParts S p w n)) := by
  have h8 := hW.2.1.1
  have hb8 := bw_le hW (show 0 < 2 by omega)
  by_cases hA : ¬ ptOK S p w n 6
  · refine Ret.of [some (zr E 102), some (.int p), some (.int w), some (.int n), none] (by decide +kernel) (Nat.le_of_ble_eq_true rfl) rfl ?_
    refine z_aload_n 1 dX10_parts_0 rfl rfl ?_
    refine z_iload_n 2 dX10_parts_1 rfl rfl ?_
    refine z_cVI1 5 (tX10_isPlayer (by assumption) (by assumption)) kX10_isPlayer dX10_parts_2 rfl lX10_162 (by first | assumption | rfl) (Nat.le_of_ble_eq_true rfl) ?_
    rintro _ _ ⟨e1, e2⟩
    replace e1 := e1.symm
    replace e2 := e2.symm
    subst e1
    subst e2
    refine z_ifb_eq 26 8 dX10_parts_5 (by decide) rfl (fun h5 => ?_) (fun h5 => ?_)
    · refine z_iconst 27 (v := (-1)) dX10_parts_26 rfl rfl ?_
      refine z_ri dX10_parts_27 rfl ?_
      exact qm0 (if_pos hA) hX Fr.rf
    · refine z_aload_n 9 dX10_parts_8 rfl rfl ?_
      refine z_iload_n 10 dX10_parts_9 rfl rfl ?_
      refine z_cVI1 13 (tX10_isWord (by assumption) (by assumption)) kX10_isWord dX10_parts_10 rfl lX10_151 (by first | assumption | rfl) (Nat.le_of_ble_eq_true rfl) ?_
      rintro _ _ ⟨e1, e2⟩
      replace e1 := e1.symm
      replace e2 := e2.symm
      subst e1
      subst e2
      refine z_ifb_eq 26 16 dX10_parts_13 (by decide) rfl (fun h13 => ?_) (fun h13 => ?_)
      · refine z_iconst 27 (v := (-1)) dX10_parts_26 rfl rfl ?_
        refine z_ri dX10_parts_27 rfl ?_
        exact qm0 (if_pos hA) hX Fr.rf
      · refine z_iload_n 17 dX10_parts_16 rfl rfl ?_
        refine z_iconst 18 (v := nI 1) dX10_parts_17 rfl rfl ?_
        refine z_bipush 20 (v := nI 6) dX10_parts_18 rfl rfl ?_
        refine z_cSI3 23 (tX10_in) kX10_in dX10_parts_20 rfl lX10_91 (Nat.le_of_ble_eq_true rfl) ?_
        rintro _ _ ⟨e1, e2⟩
        replace e1 := e1.symm
        replace e2 := e2.symm
        subst e1
        subst e2
        refine z_ifb_ne 28 26 dX10_parts_23 (by decide) rfl (fun h23 => ?_) (fun h23 => ?_)
        · exact absurd ⟨h5, h13, h23.1, h23.2⟩ hA
        · refine z_iconst 27 (v := (-1)) dX10_parts_26 rfl rfl ?_
          refine z_ri dX10_parts_27 rfl ?_
          exact qm0 (if_pos hA) hX Fr.rf
  have e0 : spParts S p w n = _ := if_neg hA
  have hA := Classical.not_not.mp hA
  have hA' := hA
  obtain ⟨a1, a2, a3, a4⟩ := hA
  obtain ⟨p, hp, rfl⟩ := inN_of a1
  obtain ⟨w, hw, rfl⟩ := inN_of a2
  obtain ⟨n, hn1, hn6, rfl⟩ := in15 (by decide) (by decide) ⟨a3, a4⟩
  obtain ⟨b1, b2, b3, b4⟩ := hA'
  rw [zx_nI (by omega), zx_nI (by omega), zx_nI (by omega)] at e0
  refine Ret.of [some (zr E 102), some (.int (nI p)), some (.int (nI w)), some (.int (nI n)), none] (by decide +kernel) (Nat.le_of_ble_eq_true rfl) rfl ?_
  refine z_aload_n 1 dX10_parts_0 rfl rfl ?_
  refine z_iload_n 2 dX10_parts_1 rfl rfl ?_
  refine z_cVI1 5 (tX10_isPlayer (by assumption) (by assumption)) kX10_isPlayer dX10_parts_2 rfl lX10_162 (by first | assumption | rfl) (Nat.le_of_ble_eq_true rfl) ?_
  rintro _ _ ⟨e1, e2⟩
  replace e1 := e1.symm
  replace e2 := e2.symm
  subst e1
  subst e2
  refine z_ifb_eq 26 8 dX10_parts_5 (by decide) rfl (fun h5 => ?_) (fun h5 => ?_)
  · exact absurd b1 h5
  · refine z_aload_n 9 dX10_parts_8 rfl rfl ?_
    refine z_iload_n 10 dX10_parts_9 rfl rfl ?_
    refine z_cVI1 13 (tX10_isWord (by assumption) (by assumption)) kX10_isWord dX10_parts_10 rfl lX10_151 (by first | assumption | rfl) (Nat.le_of_ble_eq_true rfl) ?_
    rintro _ _ ⟨e1, e2⟩
    replace e1 := e1.symm
    replace e2 := e2.symm
    subst e1
    subst e2
    refine z_ifb_eq 26 16 dX10_parts_13 (by decide) rfl (fun h13 => ?_) (fun h13 => ?_)
    · exact absurd b2 h13
    · refine z_iload_n 17 dX10_parts_16 rfl rfl ?_
      refine z_iconst 18 (v := nI 1) dX10_parts_17 rfl rfl ?_
      refine z_bipush 20 (v := nI 6) dX10_parts_18 rfl rfl ?_
      refine z_cSI3 23 (tX10_in) kX10_in dX10_parts_20 rfl lX10_91 (Nat.le_of_ble_eq_true rfl) ?_
      rintro _ _ ⟨e1, e2⟩
      replace e1 := e1.symm
      replace e2 := e2.symm
      subst e1
      subst e2
      refine z_ifb_ne 28 26 dX10_parts_23 (by decide) rfl (fun h23 => ?_) (fun h23 => ?_)
      · refine z_aload_n 29 dX10_parts_28 rfl rfl ?_
        refine z_iload_n 30 dX10_parts_29 rfl rfl ?_
        refine z_iload_n 31 dX10_parts_30 rfl rfl ?_
        refine z_iload_n 32 dX10_parts_31 rfl rfl ?_
        refine z_cVI3 35 (tX10_setFor hW hX hp hw hn1 hn6) kX10_setFor dX10_parts_32 rfl lX10_285 (by first | assumption | rfl) (Nat.le_of_ble_eq_true rfl) ?_
        rintro _ τ1 ⟨e1, hF1, hX1, hV1⟩
        subst e1
        refine zs_istore_4_5 37 rfl dX10_parts_35 rfl rfl ?_
        refine z_aload_n 38 dX10_parts_37 rfl rfl ?_
        refine z_aload_n 39 dX10_parts_38 rfl rfl ?_
        refine gX10_279 42 rfl dX10_parts_39 rfl ?_
        rw [hV1]
        refine z_iload 44 dX10_parts_42 rfl rfl ?_
        refine z_cVI2 47 (tX10_ask) kX10_ask dX10_parts_44 rfl lX10_117 (by first | assumption | rfl) (Nat.le_of_ble_eq_true rfl) ?_
        rintro _ _ ⟨e1, e2⟩
        replace e1 := e1.symm
        replace e2 := e2.symm
        subst e1
        subst e2
        refine z_ri dX10_parts_47 rfl ?_
        exact qma hW e0 hX1 (hF1.mono (by unfold mS; intros; omega))
      · exact absurd ⟨b3, b4⟩ h23
/-! few -/
abbrev fwP (S : sS) (p w s n i : Nat) : Prop := pop i = n ∧ s ≤ bsh S p w i
def fwF (S : sS) (p w s n : Nat) : Nat → Nat → Option Nat
  | 0, _ => none
  | f + 1, i => if fwP S p w s n i then some i else fwF S p w s n f (i + 1)
def fwK (S : sS) (n : Nat) (b : Option Nat) (o : Int32 × sS) : Int32 × sS := match b with
  | none => o
  | some e => sAsk S (nI e) (nI n)
def fwO (S : sS) (p w s : Nat) : Nat → Nat → Int32 × sS
  | 0, _ => (-9, S)
  | f + 1, n => fwK S n (fwF S p w s n 1023 1) (fwO S p w s f (n + 1))
theorem fwF_n {S : sS} {p w s n i : Nat} (hi : i < 1024) (h : ¬ fwP S p w s n i) : fwF S p w s n (1024 - i) i = fwF S p w s n (1024 - (i + 1)) (i + 1) := by
  rw [show 1024 - i = (1024 - (i + 1)) + 1 by omega]
  exact if_neg h
theorem fwF_y {S : sS} {p w s n i : Nat} (hi : i < 1024) (h : fwP S p w s n i) : fwF S p w s n (1024 - i) i = some i := by
  rw [show 1024 - i = (1024 - (i + 1)) + 1 by omega]
  exact if_pos h
theorem fwO_s {S : sS} {p w s n : Nat} (hn : n < 7) : fwO S p w s (7 - n) n = fwK S n (fwF S p w s n 1023 1) (fwO S p w s (7 - (n + 1)) (n + 1)) := by
  rw [show 7 - n = (7 - (n + 1)) + 1 by omega]
  rfl
def spFew (S : sS) (p w s : Int32) : Int32 × sS := if ¬ ptOK S p w s 24 then (-1, S) else fwO S (zx p) (zx w) (zx s) 6 1
set_option maxRecDepth 20000 in
theorem tX9_few {E : zE} {d : Nat} {σ : zM} {S : sS} {p w s : Int32} (hW : WF S) (hX : RX S σ) : Ret E mX9_few (d + 4) [zr E 0, .int p, .int w, .int s] σ (qX σ (spFew S p w s)) := by
  have h8 := hW.2.1.1
  have hb8 := bw_le hW (show 0 < 2 by omega)
  by_cases hA : ¬ ptOK S p w s 24
  · refine Ret.of [some (zr E 0), some (.int p), some (.int w), some (.int s), none, none] (by decide +kernel) (Nat.le_of_ble_eq_true rfl) rfl ?_
    refine z_aload_n 1 dX9_few_0 rfl rfl ?_
    refine z_iload_n 2 dX9_few_1 rfl rfl ?_
    refine z_cVI1 5 (tX9_isPl (by assumption) (by assumption)) kX9_isPlayer dX9_few_2 rfl lX9_176 (by first | assumption | rfl) (Nat.le_of_ble_eq_true rfl) ?_
    rintro _ _ ⟨e1, e2⟩
    replace e1 := e1.symm
    replace e2 := e2.symm
    subst e1
    subst e2
    refine z_ifb_eq 27 8 dX9_few_5 (by decide) rfl (fun h5 => ?_) (fun h5 => ?_)
    · refine z_iconst 28 (v := (-1)) dX9_few_27 rfl rfl ?_
      refine z_ri dX9_few_28 rfl ?_
      exact qx0 (if_pos hA) hX Fr.rf
    · refine z_aload_n 9 dX9_few_8 rfl rfl ?_
      refine z_iload_n 10 dX9_few_9 rfl rfl ?_
      refine z_cVI1 13 (tX9_isWord (by assumption) (by assumption)) kX9_isWord dX9_few_10 rfl lX9_165 (by first | assumption | rfl) (Nat.le_of_ble_eq_true rfl) ?_
      rintro _ _ ⟨e1, e2⟩
      replace e1 := e1.symm
      replace e2 := e2.symm
      subst e1
      subst e2
      refine z_ifb_eq 27 16 dX9_few_13 (by decide) rfl (fun h13 => ?_) (fun h13 => ?_)
      · refine z_iconst 28 (v := (-1)) dX9_few_27 rfl rfl ?_
        refine z_ri dX9_few_28 rfl ?_
        exact qx0 (if_pos hA) hX Fr.rf
      · refine z_iload_n 17 dX9_few_16 rfl rfl ?_
        refine z_iconst 18 (v := nI 1) dX9_few_17 rfl rfl ?_
        refine z_icmp_lt 27 21 dX9_few_18 (by decide) rfl (fun h18 => ?_) (fun h18 => ?_)
        · refine z_iconst 28 (v := (-1)) dX9_few_27 rfl rfl ?_
          refine z_ri dX9_few_28 rfl ?_
          exact qx0 (if_pos hA) hX Fr.rf
        · refine z_iload_n 22 dX9_few_21 rfl rfl ?_
          refine z_bipush 24 (v := nI 24) dX9_few_22 rfl rfl ?_
          refine z_icmp_le 29 27 dX9_few_24 (by decide) rfl (fun h24 => ?_) (fun h24 => ?_)
          · exact absurd ⟨h5, h13, Int32.not_lt.mp h18, h24⟩ hA
          · refine z_iconst 28 (v := (-1)) dX9_few_27 rfl rfl ?_
            refine z_ri dX9_few_28 rfl ?_
            exact qx0 (if_pos hA) hX Fr.rf
  have e0 : spFew S p w s = _ := if_neg hA
  have hA := Classical.not_not.mp hA
  have hA' := hA
  obtain ⟨a1, a2, a3, a4⟩ := hA
  obtain ⟨p, hp, rfl⟩ := inN_of a1
  obtain ⟨w, hw, rfl⟩ := inN_of a2
  obtain ⟨s, hs1, hs6, rfl⟩ := in15 (by decide) (by decide) ⟨a3, a4⟩
  obtain ⟨b1, b2, b3, b4⟩ := hA'
  rw [zx_nI (by omega), zx_nI (by omega), zx_nI (by omega)] at e0
  have hcp := kd_p (show p < 8 by omega)
  have outer : ∀ n, n ≤ 7 → 1 ≤ n → ∀ y τ, spFew S (nI p) (nI w) (nI s) = fwO S p w s (7 - n) n → Fr (fun x y => 8 ≤ x ∧ x ≤ 12) σ τ → RX S τ → At E mX9_few (d + 4) (qX σ (spFew S (nI p) (nI w) (nI s))) 32 [some (zr E 0), some (.int (nI p)), some (.int (nI w)), some (.int (nI s)), some (.int (nI n)), y] [] τ := by
    refine z_up (fun n hn oh hn1 y τ e0 hF hR => ?_)
    by_cases hne : n = 7
    · subst hne
      refine z_iload 34 dX9_few_32 rfl rfl ?_
      refine z_bipush 36 (v := nI 6) dX9_few_34 rfl rfl ?_
      refine z_icmp_gt 102 39 dX9_few_36 (by decide) rfl (fun h36 => ?_) (fun h36 => ?_)
      · (try rw [nI_ltI (by omega) (by omega)] at h36)
        refine z_bipush 104 (v := (-9)) dX9_few_102 rfl rfl ?_
        refine z_ri dX9_few_104 rfl ?_
        exact qx0 e0 hR (hF.mono (by intros; omega))
      · (try rw [nI_ltI (by omega) (by omega)] at h36)
        omega
    · rw [fwO_s (by omega)] at e0
      have inner : ∀ i, i ≤ 1024 → ∀ τ, fwF S p w s n 1023 1 = fwF S p w s n (1024 - i) i → Fr (fun x y => 8 ≤ x ∧ x ≤ 12) σ τ → RX S τ → At E mX9_few (d + 4) (qX σ (spFew S (nI p) (nI w) (nI s))) 42 [some (zr E 0), some (.int (nI p)), some (.int (nI w)), some (.int (nI s)), some (.int (nI n)), some (.int (nI i))] [] τ := by
        refine z_up (fun i hi ih τ e1 hF hR => ?_)
        by_cases hie : i = 1024
        · have e2 : fwF S p w s n 1023 1 = none := e1.trans (by rw [hie]; rfl)
          rw [e2] at e0
          refine z_iload 44 dX9_few_42 rfl rfl ?_
          refine z_sipush 47 (v := nI 1024) dX9_few_44 rfl rfl ?_
          refine z_icmp_ge 96 50 dX9_few_47 (by decide) rfl (fun h47 => ?_) (fun h47 => ?_)
          · (try rw [nI_leI (by omega) (by omega)] at h47)
            refine zs_iinc_4_6_1 99 rfl dX9_few_96 rfl rfl ?_
            rw [nI_add]
            refine z_goto 32 dX9_few_99 rfl ?_
            exact oh (n + 1) (by omega) (by omega) (by omega) _ τ e0 hF hR
          · (try rw [nI_leI (by omega) (by omega)] at h47)
            omega
        · have hpl := pop_le i
          have hbl : bsh S p w i ≤ 24 := shN_le hW hp _ _ none hw
          refine z_iload 44 dX9_few_42 rfl rfl ?_
          refine z_sipush 47 (v := nI 1024) dX9_few_44 rfl rfl ?_
          refine z_icmp_ge 96 50 dX9_few_47 (by decide) rfl (fun h47 => ?_) (fun h47 => ?_)
          · (try rw [nI_leI (by omega) (by omega)] at h47)
            omega
          · (try rw [nI_leI (by omega) (by omega)] at h47)
            refine z_iload 52 dX9_few_50 rfl rfl ?_
            refine z_cSI1 55 (tJ6_bitCount_0f7a4 (by omega)) kJ6_bitCount_0f7a4 dX9_few_52 rfl lX9_284 (Nat.le_of_ble_eq_true rfl) ?_
            rintro _ _ ⟨e1, e2⟩
            replace e1 := e1.symm
            replace e2 := e2.symm
            subst e1
            subst e2
            refine z_iload 57 dX9_few_55 rfl rfl ?_
            refine z_icmp_ne 90 60 dX9_few_57 (by decide) rfl (fun h57 => ?_) (fun h57 => ?_)
            · (try rw [nI_eq (by omega) (by omega)] at h57)
              rw [fwF_n (by omega) (fun z => h57 z.1)] at e1
              refine zs_iinc_5_6_1 93 rfl dX9_few_90 rfl rfl ?_
              rw [nI_add]
              refine z_goto 42 dX9_few_93 rfl ?_
              first
                | exact ih (i + 1) (by omega) (by omega) τ1 e1 hF2 hX1
                | exact ih (i + 1) (by omega) (by omega) τ e1 hF hR
            · (try rw [nI_eq (by omega) (by omega)] at h57)
              refine z_aload_n 61 dX9_few_60 rfl rfl ?_
              refine z_aload_n 62 dX9_few_61 rfl rfl ?_
              refine gX9_26 65 rfl dX9_few_62 rfl ?_
              refine z_iload_n 66 dX9_few_65 rfl rfl ?_
              refine z_aald4 67 dX9_few_66 rfl (by omega) ?_
              refine z_iload 69 dX9_few_67 rfl rfl ?_
              refine z_iload_n 70 dX9_few_69 rfl rfl ?_
              refine z_cVI3 73 (tX9_shareBySet hW hR hp hw (show i < 1024 by omega) (by omega) (by omega)) kX9_shareBySet dX9_few_70 rfl lX9_289 (by first | assumption | rfl) (Nat.le_of_ble_eq_true rfl) ?_
              rintro _ τ1 ⟨e3, hF1, hX1⟩
              subst e3
              have hF2 : Fr (fun x y => 8 ≤ x ∧ x ≤ 12) σ τ1 := hF.tr hF1 (fun _ _ h => h) (fun _ _ h => h)
              refine z_iload_n 74 dX9_few_73 rfl rfl ?_
              refine z_icmp_lt 90 77 dX9_few_74 (by decide) rfl (fun h74 => ?_) (fun h74 => ?_)
              · (try rw [nI_ltI (by omega) (by omega)] at h74)
                rw [fwF_n (by omega) (fun z => by have := z.2; omega)] at e1
                refine zs_iinc_5_6_1 93 rfl dX9_few_90 rfl rfl ?_
                rw [nI_add]
                refine z_goto 42 dX9_few_93 rfl ?_
                first
                  | exact ih (i + 1) (by omega) (by omega) τ1 e1 hF2 hX1
                  | exact ih (i + 1) (by omega) (by omega) τ e1 hF hR
              · (try rw [nI_ltI (by omega) (by omega)] at h74)
                rw [fwF_y (by omega) ⟨h57, by omega⟩] at e1
                rw [e1] at e0
                refine z_aload_n 78 dX9_few_77 rfl rfl ?_
                refine gX9_39 81 rfl dX9_few_78 rfl ?_
                refine z_iload 83 dX9_few_81 rfl rfl ?_
                refine z_cVI1 86 (tX0_ask) kX0_ask dX9_few_83 rfl lX9_104 (by first | assumption | rfl) (Nat.le_of_ble_eq_true rfl) ?_
                rintro _ _ ⟨e1, e2⟩
                replace e1 := e1.symm
                replace e2 := e2.symm
                subst e1
                subst e2
                refine z_pop 87 dX9_few_86 rfl rfl ?_
                refine z_iload 89 dX9_few_87 rfl rfl ?_
                refine z_ri dX9_few_89 rfl ?_
                exact qxa hW e0 hX1 (hF2.mono (by intros; omega))
      refine z_iload 34 dX9_few_32 rfl rfl ?_
      refine z_bipush 36 (v := nI 6) dX9_few_34 rfl rfl ?_
      refine z_icmp_gt 102 39 dX9_few_36 (by decide) rfl (fun h36 => ?_) (fun h36 => ?_)
      · (try rw [nI_ltI (by omega) (by omega)] at h36)
        omega
      · (try rw [nI_ltI (by omega) (by omega)] at h36)
        refine z_iconst 40 (v := nI 1) dX9_few_39 rfl rfl ?_
        refine zs_istore_5_6 42 rfl dX9_few_40 rfl rfl ?_
        exact inner 1 (by omega) τ rfl hF hR
  refine Ret.of [some (zr E 0), some (.int (nI p)), some (.int (nI w)), some (.int (nI s)), none, none] (by decide +kernel) (Nat.le_of_ble_eq_true rfl) rfl ?_
  refine z_aload_n 1 dX9_few_0 rfl rfl ?_
  refine z_iload_n 2 dX9_few_1 rfl rfl ?_
  refine z_cVI1 5 (tX9_isPl (by assumption) (by assumption)) kX9_isPlayer dX9_few_2 rfl lX9_176 (by first | assumption | rfl) (Nat.le_of_ble_eq_true rfl) ?_
  rintro _ _ ⟨e1, e2⟩
  replace e1 := e1.symm
  replace e2 := e2.symm
  subst e1
  subst e2
  refine z_ifb_eq 27 8 dX9_few_5 (by decide) rfl (fun h5 => ?_) (fun h5 => ?_)
  · exact absurd b1 h5
  · refine z_aload_n 9 dX9_few_8 rfl rfl ?_
    refine z_iload_n 10 dX9_few_9 rfl rfl ?_
    refine z_cVI1 13 (tX9_isWord (by assumption) (by assumption)) kX9_isWord dX9_few_10 rfl lX9_165 (by first | assumption | rfl) (Nat.le_of_ble_eq_true rfl) ?_
    rintro _ _ ⟨e1, e2⟩
    replace e1 := e1.symm
    replace e2 := e2.symm
    subst e1
    subst e2
    refine z_ifb_eq 27 16 dX9_few_13 (by decide) rfl (fun h13 => ?_) (fun h13 => ?_)
    · exact absurd b2 h13
    · refine z_iload_n 17 dX9_few_16 rfl rfl ?_
      refine z_iconst 18 (v := nI 1) dX9_few_17 rfl rfl ?_
      refine z_icmp_lt 27 21 dX9_few_18 (by decide) rfl (fun h18 => ?_) (fun h18 => ?_)
      · (try rw [nI_ltI (by omega) (by omega)] at h18)
        omega
      · (try rw [nI_ltI (by omega) (by omega)] at h18)
        refine z_iload_n 22 dX9_few_21 rfl rfl ?_
        refine z_bipush 24 (v := nI 24) dX9_few_22 rfl rfl ?_
        refine z_icmp_le 29 27 dX9_few_24 (by decide) rfl (fun h24 => ?_) (fun h24 => ?_)
        · (try rw [nI_leI (by omega) (by omega)] at h24)
          refine z_iconst 30 (v := nI 1) dX9_few_29 rfl rfl ?_
          refine zs_istore_4_6 32 rfl dX9_few_30 rfl rfl ?_
          exact outer 1 (by omega) (by omega) none σ e0 Fr.rf hX
        · (try rw [nI_leI (by omega) (by omega)] at h24)
          omega
set_option maxRecDepth 20000 in
theorem tX10_few {E : zE} {d : Nat} {σ : zM} {S : sS} {p w s : Int32} (hW : WF S) (hX : RM S σ) : Ret E mX10_few (d + 6) [zr E 102, .int p, .int w, .int s] σ (qM σ (spFew S p w s)) := by
  have h8 := hW.2.1.1
  have hb8 := bw_le hW (show 0 < 2 by omega)
  by_cases hA : ¬ ptOK S p w s 24
  · refine Ret.of [some (zr E 102), some (.int p), some (.int w), some (.int s), none, none] (by decide +kernel) (Nat.le_of_ble_eq_true rfl) rfl ?_
    refine z_aload_n 1 dX10_few_0 rfl rfl ?_
    refine z_iload_n 2 dX10_few_1 rfl rfl ?_
    refine z_cVI1 5 (tX10_isPlayer (by assumption) (by assumption)) kX10_isPlayer dX10_few_2 rfl lX10_162 (by first | assumption | rfl) (Nat.le_of_ble_eq_true rfl) ?_
    rintro _ _ ⟨e1, e2⟩
    replace e1 := e1.symm
    replace e2 := e2.symm
    subst e1
    subst e2
    refine z_ifb_eq 26 8 dX10_few_5 (by decide) rfl (fun h5 => ?_) (fun h5 => ?_)
    · refine z_iconst 27 (v := (-1)) dX10_few_26 rfl rfl ?_
      refine z_ri dX10_few_27 rfl ?_
      exact qm0 (if_pos hA) hX Fr.rf
    · refine z_aload_n 9 dX10_few_8 rfl rfl ?_
      refine z_iload_n 10 dX10_few_9 rfl rfl ?_
      refine z_cVI1 13 (tX10_isWord (by assumption) (by assumption)) kX10_isWord dX10_few_10 rfl lX10_151 (by first | assumption | rfl) (Nat.le_of_ble_eq_true rfl) ?_
      rintro _ _ ⟨e1, e2⟩
      replace e1 := e1.symm
      replace e2 := e2.symm
      subst e1
      subst e2
      refine z_ifb_eq 26 16 dX10_few_13 (by decide) rfl (fun h13 => ?_) (fun h13 => ?_)
      · refine z_iconst 27 (v := (-1)) dX10_few_26 rfl rfl ?_
        refine z_ri dX10_few_27 rfl ?_
        exact qm0 (if_pos hA) hX Fr.rf
      · refine z_iload_n 17 dX10_few_16 rfl rfl ?_
        refine z_iconst 18 (v := nI 1) dX10_few_17 rfl rfl ?_
        refine z_bipush 20 (v := nI 24) dX10_few_18 rfl rfl ?_
        refine z_cSI3 23 (tX10_in) kX10_in dX10_few_20 rfl lX10_91 (Nat.le_of_ble_eq_true rfl) ?_
        rintro _ _ ⟨e1, e2⟩
        replace e1 := e1.symm
        replace e2 := e2.symm
        subst e1
        subst e2
        refine z_ifb_ne 28 26 dX10_few_23 (by decide) rfl (fun h23 => ?_) (fun h23 => ?_)
        · exact absurd ⟨h5, h13, h23.1, h23.2⟩ hA
        · refine z_iconst 27 (v := (-1)) dX10_few_26 rfl rfl ?_
          refine z_ri dX10_few_27 rfl ?_
          exact qm0 (if_pos hA) hX Fr.rf
  have e0 : spFew S p w s = _ := if_neg hA
  have hA := Classical.not_not.mp hA
  have hA' := hA
  obtain ⟨a1, a2, a3, a4⟩ := hA
  obtain ⟨p, hp, rfl⟩ := inN_of a1
  obtain ⟨w, hw, rfl⟩ := inN_of a2
  obtain ⟨s, hs1, hs6, rfl⟩ := in15 (by decide) (by decide) ⟨a3, a4⟩
  obtain ⟨b1, b2, b3, b4⟩ := hA'
  rw [zx_nI (by omega), zx_nI (by omega), zx_nI (by omega)] at e0
  have outer : ∀ n, n ≤ 7 → 1 ≤ n → ∀ y τ, spFew S (nI p) (nI w) (nI s) = fwO S p w s (7 - n) n → Fr mS σ τ → RM S τ → At E mX10_few (d + 6) (qM σ (spFew S (nI p) (nI w) (nI s))) 31 [some (zr E 102), some (.int (nI p)), some (.int (nI w)), some (.int (nI s)), some (.int (nI n)), y] [] τ := by
    refine z_up (fun n hn oh hn1 y τ e0 hF hR => ?_)
    by_cases hne : n = 7
    · subst hne
      refine z_iload 33 dX10_few_31 rfl rfl ?_
      refine z_bipush 35 (v := nI 6) dX10_few_33 rfl rfl ?_
      refine z_icmp_gt 103 38 dX10_few_35 (by decide) rfl (fun h35 => ?_) (fun h35 => ?_)
      · (try rw [nI_ltI (by omega) (by omega)] at h35)
        refine z_bipush 105 (v := (-9)) dX10_few_103 rfl rfl ?_
        refine z_ri dX10_few_105 rfl ?_
        exact qm0 e0 hR (hF.mono (by unfold mS; intros; omega))
      · (try rw [nI_ltI (by omega) (by omega)] at h35)
        omega
    · rw [fwO_s (by omega)] at e0
      have inner : ∀ i, i ≤ 1024 → ∀ τ, fwF S p w s n 1023 1 = fwF S p w s n (1024 - i) i → Fr mS σ τ → RM S τ → At E mX10_few (d + 6) (qM σ (spFew S (nI p) (nI w) (nI s))) 41 [some (zr E 102), some (.int (nI p)), some (.int (nI w)), some (.int (nI s)), some (.int (nI n)), some (.int (nI i))] [] τ := by
        refine z_up (fun i hi ih τ e1 hF hR => ?_)
        by_cases hie : i = 1024
        · have e2 : fwF S p w s n 1023 1 = none := e1.trans (by rw [hie]; rfl)
          rw [e2] at e0
          refine z_iload 43 dX10_few_41 rfl rfl ?_
          refine z_sipush 46 (v := nI 1024) dX10_few_43 rfl rfl ?_
          refine z_icmp_ge 97 49 dX10_few_46 (by decide) rfl (fun h46 => ?_) (fun h46 => ?_)
          · (try rw [nI_leI (by omega) (by omega)] at h46)
            refine zs_iinc_4_6_1 100 rfl dX10_few_97 rfl rfl ?_
            rw [nI_add]
            refine z_goto 31 dX10_few_100 rfl ?_
            exact oh (n + 1) (by omega) (by omega) (by omega) _ τ e0 hF hR
          · (try rw [nI_leI (by omega) (by omega)] at h46)
            omega
        · have hpl := pop_le i
          have hbl : bsh S p w i ≤ 24 := shN_le hW hp _ _ none hw
          refine z_iload 43 dX10_few_41 rfl rfl ?_
          refine z_sipush 46 (v := nI 1024) dX10_few_43 rfl rfl ?_
          refine z_icmp_ge 97 49 dX10_few_46 (by decide) rfl (fun h46 => ?_) (fun h46 => ?_)
          · (try rw [nI_leI (by omega) (by omega)] at h46)
            omega
          · (try rw [nI_leI (by omega) (by omega)] at h46)
            refine z_iload 51 dX10_few_49 rfl rfl ?_
            refine z_cSI1 54 (tX10_sizeOf (show i < 1024 by omega)) kX10_sizeOf dX10_few_51 rfl lX10_282 (Nat.le_of_ble_eq_true rfl) ?_
            rintro _ _ ⟨e1, e2⟩
            replace e1 := e1.symm
            replace e2 := e2.symm
            subst e1
            subst e2
            refine z_iload 56 dX10_few_54 rfl rfl ?_
            refine z_icmp_ne 91 59 dX10_few_56 (by decide) rfl (fun h56 => ?_) (fun h56 => ?_)
            · (try rw [nI_eq (by omega) (by omega)] at h56)
              rw [fwF_n (by omega) (fun z => h56 z.1)] at e1
              refine zs_iinc_5_6_1 94 rfl dX10_few_91 rfl rfl ?_
              rw [nI_add]
              refine z_goto 41 dX10_few_94 rfl ?_
              first
                | exact ih (i + 1) (by omega) (by omega) τ2 e1 hF3 hX2
                | exact ih (i + 1) (by omega) (by omega) τ e1 hF hR
            · (try rw [nI_eq (by omega) (by omega)] at h56)
              refine z_aload_n 60 dX10_few_59 rfl rfl ?_
              refine z_iload 62 dX10_few_60 rfl rfl ?_
              refine z_cVV1 65 (tX10_seeSet (show i < 1024 by omega) (by rw [bl_popS]; omega)) kX10_seeSet dX10_few_62 rfl lX10_196 (by first | assumption | rfl) (Nat.le_of_ble_eq_true rfl) ?_
              rintro τ1 ⟨hF1, hD1⟩
              have hX1 : RM S τ1 := hR.scr hW (hF1.mono (by unfold mS; intros; omega))
              have hD1 : mDrG τ1 (pop i) (blG i) := by (rw [← bl_popS]; exact hD1)
              refine z_aload_n 66 dX10_few_65 rfl rfl ?_
              refine z_iload_n 67 dX10_few_66 rfl rfl ?_
              refine z_bipush 69 (v := (-9)) dX10_few_67 rfl rfl ?_
              refine z_cVV2 72 (tX10_sharesS (o := none) hW hX1 hp hD1 (bl_ok (by omega) (by omega)) mByV.none) kX10_setShares dX10_few_69 rfl lX10_193 (by first | assumption | rfl) (Nat.le_of_ble_eq_true rfl) ?_
              rintro τ2 ⟨hF2, hX2, hS2⟩
              have hF3 : Fr mS σ τ2 := (hF.tr hF1 (R := mS) (fun _ _ h => h) (by unfold mS; intros; omega)).tr hF2 (fun _ _ h => h) (by unfold mS; intros; omega)
              have hsw : gi τ2 115 w = nI (bsh S p w i) := hS2 w hw
              refine z_aload_n 73 dX10_few_72 rfl rfl ?_
              refine gX10_50 76 rfl dX10_few_73 rfl ?_
              refine z_iload_n 77 dX10_few_76 rfl rfl ?_
              refine z_ialdn 78 dX10_few_77 rfl (by first | assumption | rfl) (by omega) ?_
              rw [hsw]
              refine z_iload_n 79 dX10_few_78 rfl rfl ?_
              refine z_icmp_lt 91 82 dX10_few_79 (by decide) rfl (fun h79 => ?_) (fun h79 => ?_)
              · (try rw [nI_ltI (by omega) (by omega)] at h79)
                rw [fwF_n (by omega) (fun z => by have := z.2; omega)] at e1
                refine zs_iinc_5_6_1 94 rfl dX10_few_91 rfl rfl ?_
                rw [nI_add]
                refine z_goto 41 dX10_few_94 rfl ?_
                first
                  | exact ih (i + 1) (by omega) (by omega) τ2 e1 hF3 hX2
                  | exact ih (i + 1) (by omega) (by omega) τ e1 hF hR
              · (try rw [nI_ltI (by omega) (by omega)] at h79)
                rw [fwF_y (by omega) ⟨h56, by omega⟩] at e1
                rw [e1] at e0
                refine z_aload_n 83 dX10_few_82 rfl rfl ?_
                refine z_iload 85 dX10_few_83 rfl rfl ?_
                refine z_iload 87 dX10_few_85 rfl rfl ?_
                refine z_cVI2 90 (tX10_ask) kX10_ask dX10_few_87 rfl lX10_117 (by first | assumption | rfl) (Nat.le_of_ble_eq_true rfl) ?_
                rintro _ _ ⟨e1, e2⟩
                replace e1 := e1.symm
                replace e2 := e2.symm
                subst e1
                subst e2
                refine z_ri dX10_few_90 rfl ?_
                exact qma hW e0 hX2 (hF3.mono (by unfold mS; intros; omega))
      refine z_iload 33 dX10_few_31 rfl rfl ?_
      refine z_bipush 35 (v := nI 6) dX10_few_33 rfl rfl ?_
      refine z_icmp_gt 103 38 dX10_few_35 (by decide) rfl (fun h35 => ?_) (fun h35 => ?_)
      · (try rw [nI_ltI (by omega) (by omega)] at h35)
        omega
      · (try rw [nI_ltI (by omega) (by omega)] at h35)
        refine z_iconst 39 (v := nI 1) dX10_few_38 rfl rfl ?_
        refine zs_istore_5_6 41 rfl dX10_few_39 rfl rfl ?_
        exact inner 1 (by omega) τ rfl hF hR
  refine Ret.of [some (zr E 102), some (.int (nI p)), some (.int (nI w)), some (.int (nI s)), none, none] (by decide +kernel) (Nat.le_of_ble_eq_true rfl) rfl ?_
  refine z_aload_n 1 dX10_few_0 rfl rfl ?_
  refine z_iload_n 2 dX10_few_1 rfl rfl ?_
  refine z_cVI1 5 (tX10_isPlayer (by assumption) (by assumption)) kX10_isPlayer dX10_few_2 rfl lX10_162 (by first | assumption | rfl) (Nat.le_of_ble_eq_true rfl) ?_
  rintro _ _ ⟨e1, e2⟩
  replace e1 := e1.symm
  replace e2 := e2.symm
  subst e1
  subst e2
  refine z_ifb_eq 26 8 dX10_few_5 (by decide) rfl (fun h5 => ?_) (fun h5 => ?_)
  · exact absurd b1 h5
  · refine z_aload_n 9 dX10_few_8 rfl rfl ?_
    refine z_iload_n 10 dX10_few_9 rfl rfl ?_
    refine z_cVI1 13 (tX10_isWord (by assumption) (by assumption)) kX10_isWord dX10_few_10 rfl lX10_151 (by first | assumption | rfl) (Nat.le_of_ble_eq_true rfl) ?_
    rintro _ _ ⟨e1, e2⟩
    replace e1 := e1.symm
    replace e2 := e2.symm
    subst e1
    subst e2
    refine z_ifb_eq 26 16 dX10_few_13 (by decide) rfl (fun h13 => ?_) (fun h13 => ?_)
    · exact absurd b2 h13
    · refine z_iload_n 17 dX10_few_16 rfl rfl ?_
      refine z_iconst 18 (v := nI 1) dX10_few_17 rfl rfl ?_
      refine z_bipush 20 (v := nI 24) dX10_few_18 rfl rfl ?_
      refine z_cSI3 23 (tX10_in) kX10_in dX10_few_20 rfl lX10_91 (Nat.le_of_ble_eq_true rfl) ?_
      rintro _ _ ⟨e1, e2⟩
      replace e1 := e1.symm
      replace e2 := e2.symm
      subst e1
      subst e2
      refine z_ifb_ne 28 26 dX10_few_23 (by decide) rfl (fun h23 => ?_) (fun h23 => ?_)
      · refine z_iconst 29 (v := nI 1) dX10_few_28 rfl rfl ?_
        refine zs_istore_4_6 31 rfl dX10_few_29 rfl rfl ?_
        exact outer 1 (by omega) (by omega) none σ e0 Fr.rf hX
      · exact absurd ⟨b3, b4⟩ h23
