/-! keeps, was -/
def kpH (S : sS) (o : sRow) (w : Nat) : Nat := odR S o 0 w w
def kpB (S : sS) (o : sRow) (a b : Nat) (w : Nat) : Bool := decide (a * whR o ≤ kpH S o w * b)
def kpR (S : sS) (o : sRow) (a b : Nat) : Int32 × sS := sAsk S (nI (amn (kpH S o) (sBw S 0))) (nI (bs (kpB S o a b) (sBw S 0)))
abbrev kpOK (r a b : Int32) : Prop := inN r 6 ∧ nI 1 ≤ a ∧ a ≤ b ∧ b ≤ nI 99
def spKeeps (S : sS) (r a b : Int32) : Int32 × sS := if ¬ kpOK r a b then (-1, S) else if ¬ sTf S (sR S (zx r)) = 0 then sFd S (sTf S (sR S (zx r))) else kpR S (sR S (zx r)) (zx a) (zx b)
theorem amn_1 (f : Nat → Nat) : amn f 1 = 0 := if_neg (Nat.lt_irrefl _)
theorem kp_ab {a b : Int32} (h1 : nI 1 ≤ a) (h2 : a ≤ b) (h3 : b ≤ nI 99) : ∃ m n, 1 ≤ m ∧ m ≤ n ∧ n ≤ 99 ∧ a = nI m ∧ b = nI n := by
  obtain ⟨n, hn1, hn9, rfl⟩ := in15 (by decide) (by decide) ⟨Int32.le_trans h1 h2, h3⟩
  obtain ⟨m, hm1, hm9, rfl⟩ := in15 (by decide) (show n < 2 ^ 31 by omega) ⟨h1, h2⟩
  exact ⟨m, n, hm1, hm9, hn9, rfl, rfl⟩
set_option maxRecDepth 20000 in
theorem tX9_keeps {E : zE} {d : Nat} {σ : zM} {S : sS} {r a b : Int32} (hW : WF S) (hX : RX S σ) : Ret E mX9_keeps (d + 5) [zr E 0, .int r, .int a, .int b] σ (qX σ (spKeeps S r a b)) := by
  have h8 := hW.2.1.1
  have hb8 := bw_le hW (show 0 < 2 by omega)
  by_cases hA : ¬ kpOK r a b
  · refine Ret.of [some (zr E 0), some (.int r), some (.int a), some (.int b), none, none, none, none, none, none, none, none] (by decide +kernel) (Nat.le_of_ble_eq_true rfl) rfl ?_
    refine z_iload_n 1 dX9_keeps_0 rfl rfl ?_
    refine z_cSI1 4 (tX9_isRow) kX9_isRow dX9_keeps_1 rfl lX9_83 (Nat.le_of_ble_eq_true rfl) ?_
    rintro _ _ ⟨e1, e2⟩
    replace e1 := e1.symm
    replace e2 := e2.symm
    subst e1
    subst e2
    refine z_ifb_eq 23 7 dX9_keeps_4 (by decide) rfl (fun h4 => ?_) (fun h4 => ?_)
    · refine z_iconst 24 (v := (-1)) dX9_keeps_23 rfl rfl ?_
      refine z_ri dX9_keeps_24 rfl ?_
      exact qx0 (if_pos hA) hX Fr.rf
    · refine z_iload_n 8 dX9_keeps_7 rfl rfl ?_
      refine z_iconst 9 (v := nI 1) dX9_keeps_8 rfl rfl ?_
      refine z_icmp_lt 23 12 dX9_keeps_9 (by decide) rfl (fun h9 => ?_) (fun h9 => ?_)
      · refine z_iconst 24 (v := (-1)) dX9_keeps_23 rfl rfl ?_
        refine z_ri dX9_keeps_24 rfl ?_
        exact qx0 (if_pos hA) hX Fr.rf
      · refine z_iload_n 13 dX9_keeps_12 rfl rfl ?_
        refine z_bipush 15 (v := nI 99) dX9_keeps_13 rfl rfl ?_
        refine z_icmp_gt 23 18 dX9_keeps_15 (by decide) rfl (fun h15 => ?_) (fun h15 => ?_)
        · refine z_iconst 24 (v := (-1)) dX9_keeps_23 rfl rfl ?_
          refine z_ri dX9_keeps_24 rfl ?_
          exact qx0 (if_pos hA) hX Fr.rf
        · refine z_iload_n 19 dX9_keeps_18 rfl rfl ?_
          refine z_iload_n 20 dX9_keeps_19 rfl rfl ?_
          refine z_icmp_le 25 23 dX9_keeps_20 (by decide) rfl (fun h20 => ?_) (fun h20 => ?_)
          · exact absurd ⟨h4, Int32.not_lt.mp h9, h20, Int32.not_lt.mp h15⟩ hA
          · refine z_iconst 24 (v := (-1)) dX9_keeps_23 rfl rfl ?_
            refine z_ri dX9_keeps_24 rfl ?_
            exact qx0 (if_pos hA) hX Fr.rf
  have e0 : spKeeps S r a b = _ := if_neg hA
  obtain ⟨b1, b2, b3, b4⟩ := Classical.not_not.mp hA
  obtain ⟨r, hr, rfl⟩ := inN_of b1
  obtain ⟨a, b, ha1, hab, hb9, rfl, rfl⟩ := kp_ab b2 b3 b4
  have b1 : inN (nI r) 6 := inN_nI hr (by omega)
  rw [zx_nI (by omega), zx_nI (by omega), zx_nI (by omega)] at e0
  have hpl := sTf_lt S (sR S r)
  refine Ret.of [some (zr E 0), some (.int (nI r)), some (.int (nI a)), some (.int (nI b)), none, none, none, none, none, none, none, none] (by decide +kernel) (Nat.le_of_ble_eq_true rfl) rfl ?_
  by_cases hD : sTf S (sR S r) = 0
  · rw [if_neg (fun z => z hD)] at e0
    obtain ⟨q, hq, hT, hqg⟩ := sTf0 hD
    have hsz : sSz (sR S r) = q.1 := by rw [hq]; rfl
    have n2 := hT.1.1
    have n8 := hT.1.2.1
    have ew : whR (sR S r) = 24 ^ (q.1 / 2) := by unfold whR; rw [hsz]
    have eh : ∀ w, odN S (gOf (sR S r)) q.1 0 (eW w) (q.1 / 2) w = kpH S (sR S r) w := fun w => by unfold kpH odR; rw [hsz]
    have hh : ∀ w, w < sBw S 0 → kpH S (sR S r) w ≤ 24 ^ (q.1 / 2) := fun w hw => by rw [← eh]; exact odN_le hW hT 0 hw _ hw
    have o2 := p24 (show q.1 / 2 ≤ 4 by omega)
    have hwb : a * 24 ^ (q.1 / 2) ≤ 99 * 331776 := Nat.mul_le_mul (by omega) o2
    have loop : ∀ i, i ≤ sBw S 0 → ∀ y τ, Fr xS σ τ → RX S τ → RdT τ q.1 (sBw S 0) (gOf (sR S r)) → (∀ j, j < q.1 → StK S τ (gOf (sR S r) j) (gOf (sR S r) ((j + 1) % q.1))) → At E mX9_keeps (d + 5) (qX σ (spKeeps S (nI r) (nI a) (nI b))) 70 [some (zr E 0), some (.int (nI r)), some (.int (nI a)), some (.int (nI b)), some (.int (nI 0)), some (.int (nI (bs (kpB S (sR S r) a b) i))), some (.int (nI (amn (kpH S (sR S r)) i))), some (.long (lN (if i = 0 then 24 ^ (q.1 / 2) else kpH S (sR S r) (amn (kpH S (sR S r)) i)))), none, some (.int (nI i)), y, none] [] τ := by
      refine z_up (fun i hi ih y τ hF hR hD hS => ?_)
      by_cases hie : i = sBw S 0
      · rw [hie]
        refine z_iload 72 dX9_keeps_70 rfl rfl ?_
        refine z_aload_n 73 dX9_keeps_72 rfl rfl ?_
        refine gX9_60 76 rfl dX9_keeps_73 rfl ?_
        refine gX9_256 79 rfl dX9_keeps_76 rfl (by first | assumption | rfl) ?_
        rw [hD.2.1]
        refine z_icmp_ge 146 82 dX9_keeps_79 (by decide) rfl (fun h79 => ?_) (fun h79 => ?_)
        · (try rw [nI_leI (by omega) (by omega)] at h79)
          refine z_aload_n 147 dX9_keeps_146 rfl rfl ?_
          refine gX9_39 150 rfl dX9_keeps_147 rfl ?_
          refine z_iload 152 dX9_keeps_150 rfl rfl ?_
          refine z_cVI1 155 (tX0_ask) kX0_ask dX9_keeps_152 rfl lX9_104 (by first | assumption | rfl) (Nat.le_of_ble_eq_true rfl) ?_
          rintro _ _ ⟨e1, e2⟩
          replace e1 := e1.symm
          replace e2 := e2.symm
          subst e1
          subst e2
          refine z_pop 156 dX9_keeps_155 rfl rfl ?_
          refine z_iload 158 dX9_keeps_156 rfl rfl ?_
          refine z_ri dX9_keeps_158 rfl ?_
          exact qxa hW e0 hR (hF.mono xS_all)
        · (try rw [nI_leI (by omega) (by omega)] at h79)
          omega
      · have hil : i < sBw S 0 := by omega
        have hhi := hh i hil
        have hpb : kpH S (sR S r) i * b ≤ 331776 * 99 := Nat.mul_le_mul (by omega) hb9
        have hLb : (if i = 0 then 24 ^ (q.1 / 2) else kpH S (sR S r) (amn (kpH S (sR S r)) i)) ≤ 331776 := by
          split
          · omega
          · rename_i h0
            have := hh _ (Nat.lt_of_lt_of_le (amn_lt (kpH S (sR S r)) i (by omega)) hi)
            omega
        have fin : ∀ τ x, Fr xS σ τ → RX S τ → RdT τ q.1 (sBw S 0) (gOf (sR S r)) → (∀ j, j < q.1 → StK S τ (gOf (sR S r) j) (gOf (sR S r) ((j + 1) % q.1))) → x = nI (bs (kpB S (sR S r) a b) (i + 1)) → At E mX9_keeps (d + 5) (qX σ (spKeeps S (nI r) (nI a) (nI b))) 124 [some (zr E 0), some (.int (nI r)), some (.int (nI a)), some (.int (nI b)), some (.int (nI 0)), some (.int x), some (.int (nI (amn (kpH S (sR S r)) i))), some (.long (lN (if i = 0 then 24 ^ (q.1 / 2) else kpH S (sR S r) (amn (kpH S (sR S r)) i)))), none, some (.int (nI i)), some (.long (lN (kpH S (sR S r) i))), none] [] τ := by
          intro τ x hF hR hD hS ex
          subst ex
          have hih := ih (i + 1) (by omega) (by omega) (some (.long (lN (kpH S (sR S r) i)))) τ hF hR hD hS
          rw [if_neg (Nat.succ_ne_zero i)] at hih
          refine z_lload 126 dX9_keeps_124 rfl rfl ?_
          refine z_lload 128 dX9_keeps_126 rfl rfl ?_
          refine z_lcmp 129 dX9_keeps_128 rfl ?_
          refine z_if_ge 140 132 dX9_keeps_129 (by decide) rfl (fun h129 => ?_) (fun h129 => ?_)
          · rw [lg_cmp_ge] at h129
            rw [pk_lLE (by omega) (by omega)] at h129
            refine zs_iinc_9_12_1 143 rfl dX9_keeps_140 rfl rfl ?_
            rw [nI_add]
            refine z_goto 70 dX9_keeps_143 rfl ?_
            by_cases hi0 : i = 0
            · subst hi0
              rw [if_pos rfl] at h129
              try rw [if_pos rfl]
              rw [amn_1] at hih
              first
                | exact hih
                | (rw [show 24 ^ (q.1 / 2) = kpH S (sR S r) 0 by omega]; exact hih)
            · rw [if_neg hi0] at h129
              try rw [if_neg hi0]
              first
                | (rw [show amn (kpH S (sR S r)) (i + 1) = amn (kpH S (sR S r)) i from if_neg (by omega)] at hih; exact hih)
                | (rw [show amn (kpH S (sR S r)) (i + 1) = i from if_pos (by omega)] at hih; exact hih)
          · rw [lg_cmp_ge] at h129
            rw [pk_lLE (by omega) (by omega)] at h129
            refine z_lload 134 dX9_keeps_132 rfl rfl ?_
            refine zs_lstore_7_12 136 rfl dX9_keeps_134 rfl rfl ?_
            refine z_iload 138 dX9_keeps_136 rfl rfl ?_
            refine zs_istore_6_12 140 rfl dX9_keeps_138 rfl rfl ?_
            refine zs_iinc_9_12_1 143 rfl dX9_keeps_140 rfl rfl ?_
            rw [nI_add]
            refine z_goto 70 dX9_keeps_143 rfl ?_
            by_cases hi0 : i = 0
            · subst hi0
              rw [if_pos rfl] at h129
              try rw [if_pos rfl]
              rw [amn_1] at hih
              first
                | exact hih
                | (rw [show 24 ^ (q.1 / 2) = kpH S (sR S r) 0 by omega]; exact hih)
            · rw [if_neg hi0] at h129
              try rw [if_neg hi0]
              first
                | (rw [show amn (kpH S (sR S r)) (i + 1) = amn (kpH S (sR S r)) i from if_neg (by omega)] at hih; exact hih)
                | (rw [show amn (kpH S (sR S r)) (i + 1) = i from if_pos (by omega)] at hih; exact hih)
        refine z_iload 72 dX9_keeps_70 rfl rfl ?_
        refine z_aload_n 73 dX9_keeps_72 rfl rfl ?_
        refine gX9_60 76 rfl dX9_keeps_73 rfl ?_
        refine gX9_256 79 rfl dX9_keeps_76 rfl (by first | assumption | rfl) ?_
        rw [hD.2.1]
        refine z_icmp_ge 146 82 dX9_keeps_79 (by decide) rfl (fun h79 => ?_) (fun h79 => ?_)
        · (try rw [nI_leI (by omega) (by omega)] at h79)
          omega
        · (try rw [nI_leI (by omega) (by omega)] at h79)
          refine z_aload_n 83 dX9_keeps_82 rfl rfl ?_
          refine gX9_60 86 rfl dX9_keeps_83 rfl ?_
          refine z_iconst 87 (v := nI 0) dX9_keeps_86 rfl rfl ?_
          refine z_iload 89 dX9_keeps_87 rfl rfl ?_
          refine z_iload 91 dX9_keeps_89 rfl rfl ?_
          refine z_cVJ3 94 (tX5_reach hW hT hD (show 0 < 8 by omega) (adj_of (by omega) hS 0) hil hil) kX5_reach dX9_keeps_91 rfl lX9_239 (by first | assumption | rfl) (Nat.le_of_ble_eq_true rfl) ?_
          rintro _ τ1 ⟨e1, hF1⟩
          subst e1
          have hX1 : RX S τ1 := hR.scr hW (hF1.mono fOd_xS)
          have hF2 : Fr xS σ τ1 := hF.tr hF1 (fun _ _ h => h) fOd_xS
          have hD1 := hD.fr hF1 (by omega) (by omega) (by intros; omega)
          have hS1 : ∀ j, j < q.1 → StK S τ1 (gOf (sR S r) j) (gOf (sR S r) ((j + 1) % q.1)) := fun j hj => (hS j hj).fr hF1 (by intros; omega)
          rw [eh]
          refine zs_lstore_10_12 96 rfl dX9_keeps_94 rfl rfl ?_
          refine z_lload 98 dX9_keeps_96 rfl rfl ?_
          refine z_iload_n 99 dX9_keeps_98 rfl rfl ?_
          refine z_i2l 100 dX9_keeps_99 rfl ?_
          rw [nI_l (by omega)]
          refine z_lmul 101 dX9_keeps_100 rfl ?_
          rw [lN_mul]
          refine z_iload_n 102 dX9_keeps_101 rfl rfl ?_
          refine z_i2l 103 dX9_keeps_102 rfl ?_
          rw [nI_l (by omega)]
          refine z_aload_n 104 dX9_keeps_103 rfl rfl ?_
          refine gX9_60 107 rfl dX9_keeps_104 rfl ?_
          refine z_cVJ0 110 (tX5_whole hD1.1 n8) kX5_whole dX9_keeps_107 rfl lX9_243 (by first | assumption | rfl) (Nat.le_of_ble_eq_true rfl) ?_
          rintro _ _ ⟨e1, e2⟩
          replace e1 := e1.symm
          replace e2 := e2.symm
          subst e1
          subst e2
          refine z_lmul 111 dX9_keeps_110 rfl ?_
          rw [lN_mul]
          refine z_lcmp 112 dX9_keeps_111 rfl ?_
          refine z_if_lt 124 115 dX9_keeps_112 (by decide) rfl (fun h112 => ?_) (fun h112 => ?_)
          · rw [lg_cmp_lt] at h112
            rw [pk_lLT (by omega) (by omega)] at h112
            first
              | exact fin τ1 _ hF2 hX1 hD1 hS1 (by rw [bs_f (by unfold kpB; rw [ew]; exact decide_eq_false (by omega))])
              | exact fin τ1 _ hF2 hX1 hD1 hS1 (by rw [bs_t (by unfold kpB; rw [ew]; exact decide_eq_true (by omega))])
          · rw [lg_cmp_lt] at h112
            rw [pk_lLT (by omega) (by omega)] at h112
            refine z_iload 117 dX9_keeps_115 rfl rfl ?_
            refine z_iconst 118 (v := nI 1) dX9_keeps_117 rfl rfl ?_
            refine z_iload 120 dX9_keeps_118 rfl rfl ?_
            refine z_ishl 121 dX9_keeps_120 rfl ?_
            rw [zb_shl (by omega)]
            refine z_ior 122 dX9_keeps_121 rfl ?_
            rw [zb_or]
            refine zs_istore_5_12 124 rfl dX9_keeps_122 rfl rfl ?_
            first
              | exact fin τ1 _ hF2 hX1 hD1 hS1 (by rw [bs_f (by unfold kpB; rw [ew]; exact decide_eq_false (by omega))])
              | exact fin τ1 _ hF2 hX1 hD1 hS1 (by rw [bs_t (by unfold kpB; rw [ew]; exact decide_eq_true (by omega))])
    refine z_iload_n 1 dX9_keeps_0 rfl rfl ?_
    refine z_cSI1 4 (tX9_isRow) kX9_isRow dX9_keeps_1 rfl lX9_83 (Nat.le_of_ble_eq_true rfl) ?_
    rintro _ _ ⟨e1, e2⟩
    replace e1 := e1.symm
    replace e2 := e2.symm
    subst e1
    subst e2
    refine z_ifb_eq 23 7 dX9_keeps_4 (by decide) rfl (fun h4 => ?_) (fun h4 => ?_)
    · exact absurd b1 h4
    · refine z_iload_n 8 dX9_keeps_7 rfl rfl ?_
      refine z_iconst 9 (v := nI 1) dX9_keeps_8 rfl rfl ?_
      refine z_icmp_lt 23 12 dX9_keeps_9 (by decide) rfl (fun h9 => ?_) (fun h9 => ?_)
      · (try rw [nI_ltI (by omega) (by omega)] at h9)
        omega
      · (try rw [nI_ltI (by omega) (by omega)] at h9)
        refine z_iload_n 13 dX9_keeps_12 rfl rfl ?_
        refine z_bipush 15 (v := nI 99) dX9_keeps_13 rfl rfl ?_
        refine z_icmp_gt 23 18 dX9_keeps_15 (by decide) rfl (fun h15 => ?_) (fun h15 => ?_)
        · (try rw [nI_ltI (by omega) (by omega)] at h15)
          omega
        · (try rw [nI_ltI (by omega) (by omega)] at h15)
          refine z_iload_n 19 dX9_keeps_18 rfl rfl ?_
          refine z_iload_n 20 dX9_keeps_19 rfl rfl ?_
          refine z_icmp_le 25 23 dX9_keeps_20 (by decide) rfl (fun h20 => ?_) (fun h20 => ?_)
          · (try rw [nI_leI (by omega) (by omega)] at h20)
            refine z_aload_n 26 dX9_keeps_25 rfl rfl ?_
            refine z_iload_n 27 dX9_keeps_26 rfl rfl ?_
            refine z_cVI1 30 (tX9_tableFault hW hX hr) kX9_tableFault dX9_keeps_27 rfl lX9_233 (by first | assumption | rfl) (Nat.le_of_ble_eq_true rfl) ?_
            rintro _ _ ⟨e1, e2⟩
            replace e1 := e1.symm
            replace e2 := e2.symm
            subst e1
            subst e2
            rw [hD]
            refine zs_istore_4_12 32 rfl dX9_keeps_30 rfl rfl ?_
            refine z_iload 34 dX9_keeps_32 rfl rfl ?_
            refine z_if_eq 47 37 dX9_keeps_34 (by decide) rfl (fun h34 => ?_) (fun h34 => ?_)
            · (try rw [nI_eq0 (by omega)] at h34)
              refine z_aload_n 48 dX9_keeps_47 rfl rfl ?_
              refine z_iload_n 49 dX9_keeps_48 rfl rfl ?_
              refine z_cVV1 52 (tX9_seatTable (t := gOf (sR S r)) hW hX hr hq hT hqg) kX9_seatTable dX9_keeps_49 rfl lX9_236 (by first | assumption | rfl) (Nat.le_of_ble_eq_true rfl) ?_
              rintro τ1 ⟨hF1, hX1, hD1, hS1⟩
              refine z_iconst 53 (v := nI 0) dX9_keeps_52 rfl rfl ?_
              refine zs_istore_5_12 55 rfl dX9_keeps_53 rfl rfl ?_
              refine z_iconst 56 (v := nI 0) dX9_keeps_55 rfl rfl ?_
              refine zs_istore_6_12 58 rfl dX9_keeps_56 rfl rfl ?_
              refine z_aload_n 59 dX9_keeps_58 rfl rfl ?_
              refine gX9_60 62 rfl dX9_keeps_59 rfl ?_
              refine z_cVJ0 65 (tX5_whole hD1.1 n8) kX5_whole dX9_keeps_62 rfl lX9_243 (by first | assumption | rfl) (Nat.le_of_ble_eq_true rfl) ?_
              rintro _ _ ⟨e1, e2⟩
              replace e1 := e1.symm
              replace e2 := e2.symm
              subst e1
              subst e2
              refine zs_lstore_7_12 67 rfl dX9_keeps_65 rfl rfl ?_
              refine z_iconst 68 (v := nI 0) dX9_keeps_67 rfl rfl ?_
              refine zs_istore_9_12 70 rfl dX9_keeps_68 rfl rfl ?_
              exact loop 0 (Nat.zero_le _) none τ1 (hF1.mono fSt_xS) hX1 hD1 hS1
            · (try rw [nI_eq0 (by omega)] at h34)
              exact absurd rfl h34
          · (try rw [nI_leI (by omega) (by omega)] at h20)
            omega
  · rw [if_pos hD] at e0
    refine z_iload_n 1 dX9_keeps_0 rfl rfl ?_
    refine z_cSI1 4 (tX9_isRow) kX9_isRow dX9_keeps_1 rfl lX9_83 (Nat.le_of_ble_eq_true rfl) ?_
    rintro _ _ ⟨e1, e2⟩
    replace e1 := e1.symm
    replace e2 := e2.symm
    subst e1
    subst e2
    refine z_ifb_eq 23 7 dX9_keeps_4 (by decide) rfl (fun h4 => ?_) (fun h4 => ?_)
    · exact absurd b1 h4
    · refine z_iload_n 8 dX9_keeps_7 rfl rfl ?_
      refine z_iconst 9 (v := nI 1) dX9_keeps_8 rfl rfl ?_
      refine z_icmp_lt 23 12 dX9_keeps_9 (by decide) rfl (fun h9 => ?_) (fun h9 => ?_)
      · (try rw [nI_ltI (by omega) (by omega)] at h9)
        omega
      · (try rw [nI_ltI (by omega) (by omega)] at h9)
        refine z_iload_n 13 dX9_keeps_12 rfl rfl ?_
        refine z_bipush 15 (v := nI 99) dX9_keeps_13 rfl rfl ?_
        refine z_icmp_gt 23 18 dX9_keeps_15 (by decide) rfl (fun h15 => ?_) (fun h15 => ?_)
        · (try rw [nI_ltI (by omega) (by omega)] at h15)
          omega
        · (try rw [nI_ltI (by omega) (by omega)] at h15)
          refine z_iload_n 19 dX9_keeps_18 rfl rfl ?_
          refine z_iload_n 20 dX9_keeps_19 rfl rfl ?_
          refine z_icmp_le 25 23 dX9_keeps_20 (by decide) rfl (fun h20 => ?_) (fun h20 => ?_)
          · (try rw [nI_leI (by omega) (by omega)] at h20)
            refine z_aload_n 26 dX9_keeps_25 rfl rfl ?_
            refine z_iload_n 27 dX9_keeps_26 rfl rfl ?_
            refine z_cVI1 30 (tX9_tableFault hW hX hr) kX9_tableFault dX9_keeps_27 rfl lX9_233 (by first | assumption | rfl) (Nat.le_of_ble_eq_true rfl) ?_
            rintro _ _ ⟨e1, e2⟩
            replace e1 := e1.symm
            replace e2 := e2.symm
            subst e1
            subst e2
            refine zs_istore_4_12 32 rfl dX9_keeps_30 rfl rfl ?_
            refine z_iload 34 dX9_keeps_32 rfl rfl ?_
            refine z_if_eq 47 37 dX9_keeps_34 (by decide) rfl (fun h34 => ?_) (fun h34 => ?_)
            · (try rw [nI_eq0 (by omega)] at h34)
              exact absurd h34 hD
            · (try rw [nI_eq0 (by omega)] at h34)
              refine z_aload_n 38 dX9_keeps_37 rfl rfl ?_
              refine gX9_39 41 rfl dX9_keeps_38 rfl ?_
              refine z_iload 43 dX9_keeps_41 rfl rfl ?_
              refine z_cVI1 46 (tX0_found (by omega) hpl) kX0_found dX9_keeps_43 rfl lX9_87 (by first | assumption | rfl) (Nat.le_of_ble_eq_true rfl) ?_
              rintro _ _ ⟨e1, e2⟩
              replace e1 := e1.symm
              replace e2 := e2.symm
              subst e1
              subst e2
              refine z_ri dX9_keeps_46 rfl ?_
              exact qxf hW e0 hpl hX Fr.rf
          · (try rw [nI_leI (by omega) (by omega)] at h20)
            omega
set_option maxRecDepth 20000 in
theorem tX10_keeps {E : zE} {d : Nat} {σ : zM} {S : sS} {r a b : Int32} (hW : WF S) (hX : RM S σ) : Ret E mX10_keeps (d + 9) [zr E 102, .int r, .int a, .int b] σ (qM σ (spKeeps S r a b)) := by
  have h8 := hW.2.1.1
  have hb8 := bw_le hW (show 0 < 2 by omega)
  by_cases hA : ¬ kpOK r a b
  · refine Ret.of [some (zr E 102), some (.int r), some (.int a), some (.int b), none, none, none, none, none, none] (by decide +kernel) (Nat.le_of_ble_eq_true rfl) rfl ?_
    refine z_iload_n 1 dX10_keeps_0 rfl rfl ?_
    refine z_cSI1 4 (tX10_isRow) kX10_isRow dX10_keeps_1 rfl lX10_95 (Nat.le_of_ble_eq_true rfl) ?_
    rintro _ _ ⟨e1, e2⟩
    replace e1 := e1.symm
    replace e2 := e2.symm
    subst e1
    subst e2
    refine z_ifb_eq 26 7 dX10_keeps_4 (by decide) rfl (fun h4 => ?_) (fun h4 => ?_)
    · refine z_iconst 27 (v := (-1)) dX10_keeps_26 rfl rfl ?_
      refine z_ri dX10_keeps_27 rfl ?_
      exact qm0 (if_pos hA) hX Fr.rf
    · refine z_iload_n 8 dX10_keeps_7 rfl rfl ?_
      refine z_iconst 9 (v := nI 1) dX10_keeps_8 rfl rfl ?_
      refine z_bipush 11 (v := nI 99) dX10_keeps_9 rfl rfl ?_
      refine z_cSI3 14 (tX10_in) kX10_in dX10_keeps_11 rfl lX10_91 (Nat.le_of_ble_eq_true rfl) ?_
      rintro _ _ ⟨e1, e2⟩
      replace e1 := e1.symm
      replace e2 := e2.symm
      subst e1
      subst e2
      refine z_ifb_eq 26 17 dX10_keeps_14 (by decide) rfl (fun h14 => ?_) (fun h14 => ?_)
      · refine z_iconst 27 (v := (-1)) dX10_keeps_26 rfl rfl ?_
        refine z_ri dX10_keeps_27 rfl ?_
        exact qm0 (if_pos hA) hX Fr.rf
      · refine z_iload_n 18 dX10_keeps_17 rfl rfl ?_
        refine z_iconst 19 (v := nI 1) dX10_keeps_18 rfl rfl ?_
        refine z_iload_n 20 dX10_keeps_19 rfl rfl ?_
        refine z_cSI3 23 (tX10_in) kX10_in dX10_keeps_20 rfl lX10_91 (Nat.le_of_ble_eq_true rfl) ?_
        rintro _ _ ⟨e1, e2⟩
        replace e1 := e1.symm
        replace e2 := e2.symm
        subst e1
        subst e2
        refine z_ifb_ne 28 26 dX10_keeps_23 (by decide) rfl (fun h23 => ?_) (fun h23 => ?_)
        · exact absurd ⟨h4, h23.1, h23.2, h14.2⟩ hA
        · refine z_iconst 27 (v := (-1)) dX10_keeps_26 rfl rfl ?_
          refine z_ri dX10_keeps_27 rfl ?_
          exact qm0 (if_pos hA) hX Fr.rf
  have e0 : spKeeps S r a b = _ := if_neg hA
  obtain ⟨b1, b2, b3, b4⟩ := Classical.not_not.mp hA
  have b5 := Int32.le_trans b2 b3
  obtain ⟨r, hr, rfl⟩ := inN_of b1
  obtain ⟨a, b, ha1, hab, hb9, rfl, rfl⟩ := kp_ab b2 b3 b4
  have b1 : inN (nI r) 6 := inN_nI hr (by omega)
  rw [zx_nI (by omega), zx_nI (by omega), zx_nI (by omega)] at e0
  have hpl := sTf_lt S (sR S r)
  refine Ret.of [some (zr E 102), some (.int (nI r)), some (.int (nI a)), some (.int (nI b)), none, none, none, none, none, none] (by decide +kernel) (Nat.le_of_ble_eq_true rfl) rfl ?_
  by_cases hD : sTf S (sR S r) = 0
  · rw [if_neg (fun z => z hD)] at e0
    obtain ⟨q, hq, hT, hqg⟩ := sTf0 hD
    have hsz : sSz (sR S r) = q.1 := by rw [hq]; rfl
    have n2 := hT.1.1
    have n8 := hT.1.2.1
    have ew : whR (sR S r) = 24 ^ (q.1 / 2) := by unfold whR; rw [hsz]
    have eh : ∀ w, odN S (gOf (sR S r)) q.1 0 (eW w) (q.1 / 2) w = kpH S (sR S r) w := fun w => by unfold kpH odR; rw [hsz]
    have hh : ∀ w, w < sBw S 0 → kpH S (sR S r) w ≤ 24 ^ (q.1 / 2) := fun w hw => by rw [← eh]; exact odN_le hW hT 0 hw _ hw
    have o2 := p24 (show q.1 / 2 ≤ 4 by omega)
    have hwb : 24 ^ (q.1 / 2) * a ≤ 331776 * 99 := Nat.mul_le_mul o2 (by omega)
    have hcm : 24 ^ (q.1 / 2) * a = a * 24 ^ (q.1 / 2) := Nat.mul_comm _ _
    have loop : ∀ i, i ≤ sBw S 0 → ∀ τ, Fr mS σ τ → RM S τ → mTb τ q.1 (gOf (sR S r)) → At E mX10_keeps (d + 9) (qM σ (spKeeps S (nI r) (nI a) (nI b))) 57 [some (zr E 102), some (.int (nI r)), some (.int (nI a)), some (.int (nI b)), some (.int (nI 0)), some (.int (nI (bs (kpB S (sR S r) a b) i))), some (.int (nI (amn (kpH S (sR S r)) i))), some (.long (lN (if i = 0 then 9223372036854775807 else kpH S (sR S r) (amn (kpH S (sR S r)) i)))), none, some (.int (nI i))] [] τ := by
      refine z_up (fun i hi ih τ hF hR hB => ?_)
      by_cases hie : i = sBw S 0
      · rw [hie]
        refine z_iload 59 dX10_keeps_57 rfl rfl ?_
        refine z_aload_n 60 dX10_keeps_59 rfl rfl ?_
        refine z_cVI0 63 (tX10_words (by assumption)) kX10_words dX10_keeps_60 rfl lX10_144 (by first | assumption | rfl) (Nat.le_of_ble_eq_true rfl) ?_
        rintro _ _ ⟨e1, e2⟩
        replace e1 := e1.symm
        replace e2 := e2.symm
        subst e1
        subst e2
        refine z_icmp_ge 165 66 dX10_keeps_63 (by decide) rfl (fun h63 => ?_) (fun h63 => ?_)
        · (try rw [nI_leI (by omega) (by omega)] at h63)
          refine z_aload_n 166 dX10_keeps_165 rfl rfl ?_
          refine z_iload 168 dX10_keeps_166 rfl rfl ?_
          refine z_iload 170 dX10_keeps_168 rfl rfl ?_
          refine z_cVI2 173 (tX10_ask) kX10_ask dX10_keeps_170 rfl lX10_117 (by first | assumption | rfl) (Nat.le_of_ble_eq_true rfl) ?_
          rintro _ _ ⟨e1, e2⟩
          replace e1 := e1.symm
          replace e2 := e2.symm
          subst e1
          subst e2
          refine z_ri dX10_keeps_173 rfl ?_
          exact qma hW e0 hR (hF.mono mS_all)
        · (try rw [nI_leI (by omega) (by omega)] at h63)
          omega
      · have hil : i < sBw S 0 := by omega
        have hhi := hh i hil
        have hpb : kpH S (sR S r) i * b ≤ 331776 * 99 := Nat.mul_le_mul (by omega) hb9
        have hLb : (if i = 0 then 9223372036854775807 else kpH S (sR S r) (amn (kpH S (sR S r)) i)) < 2 ^ 63 := by
          split
          · decide
          · rename_i h0
            have := hh _ (Nat.lt_of_lt_of_le (amn_lt (kpH S (sR S r)) i (by omega)) hi)
            omega
        have fin : ∀ τ x, Fr mS σ τ → RM S τ → mTb τ q.1 (gOf (sR S r)) → gl τ 117 i = lN (kpH S (sR S r) i) → x = nI (bs (kpB S (sR S r) a b) (i + 1)) → At E mX10_keeps (d + 9) (qM σ (spKeeps S (nI r) (nI a) (nI b))) 108 [some (zr E 102), some (.int (nI r)), some (.int (nI a)), some (.int (nI b)), some (.int (nI 0)), some (.int (nI (bs (kpB S (sR S r) a b) i))), some (.int (nI (amn (kpH S (sR S r)) i))), some (.long (lN (if i = 0 then 9223372036854775807 else kpH S (sR S r) (amn (kpH S (sR S r)) i)))), none, some (.int (nI i))] [.int x] τ := by
          intro τ x hF hR hB hO ex
          subst ex
          have hih := ih (i + 1) (by omega) (by omega) τ hF hR hB
          rw [if_neg (Nat.succ_ne_zero i)] at hih
          refine zs_istore_5_10 110 rfl dX10_keeps_108 rfl rfl ?_
          refine z_aload_n 111 dX10_keeps_110 rfl rfl ?_
          refine gX10_56 114 rfl dX10_keeps_111 rfl ?_
          refine z_iload 116 dX10_keeps_114 rfl rfl ?_
          refine z_laldn 117 dX10_keeps_116 rfl (by first | assumption | rfl) (by omega) ?_
          rw [hO]
          refine z_lload 119 dX10_keeps_117 rfl rfl ?_
          refine z_lcmp 120 dX10_keeps_119 rfl ?_
          refine z_if_ge 128 123 dX10_keeps_120 (by decide) rfl (fun h120 => ?_) (fun h120 => ?_)
          · rw [lg_cmp_ge] at h120
            rw [pk_lLE hLb (by omega)] at h120
            refine z_iload 130 dX10_keeps_128 rfl rfl ?_
            refine zs_istore_6_10 132 rfl dX10_keeps_130 rfl rfl ?_
            refine z_aload_n 133 dX10_keeps_132 rfl rfl ?_
            refine gX10_56 136 rfl dX10_keeps_133 rfl ?_
            refine z_iload 138 dX10_keeps_136 rfl rfl ?_
            refine z_laldn 139 dX10_keeps_138 rfl (by first | assumption | rfl) (by omega) ?_
            rw [hO]
            refine z_lload 141 dX10_keeps_139 rfl rfl ?_
            refine z_lcmp 142 dX10_keeps_141 rfl ?_
            refine z_if_ge 155 145 dX10_keeps_142 (by decide) rfl (fun h142 => ?_) (fun h142 => ?_)
            · rw [lg_cmp_ge] at h142
              rw [pk_lLE hLb (by omega)] at h142
              refine z_lload 157 dX10_keeps_155 rfl rfl ?_
              refine zs_lstore_7_10 159 rfl dX10_keeps_157 rfl rfl ?_
              refine zs_iinc_9_10_1 162 rfl dX10_keeps_159 rfl rfl ?_
              rw [nI_add]
              refine z_goto 57 dX10_keeps_162 rfl ?_
              by_cases hi0 : i = 0
              · subst hi0
                rw [if_pos rfl] at h120 h142
                try rw [if_pos rfl]
                rw [amn_1] at hih
                first
                  | (exfalso; omega)
                  | exact hih
              · rw [if_neg hi0] at h120 h142
                try rw [if_neg hi0]
                first
                  | (exfalso; omega)
                  | (rw [show amn (kpH S (sR S r)) (i + 1) = amn (kpH S (sR S r)) i from if_neg (by omega)] at hih; exact hih)
                  | (rw [show amn (kpH S (sR S r)) (i + 1) = i from if_pos (by omega)] at hih; exact hih)
            · rw [lg_cmp_ge] at h142
              rw [pk_lLE hLb (by omega)] at h142
              refine z_aload_n 146 dX10_keeps_145 rfl rfl ?_
              refine gX10_56 149 rfl dX10_keeps_146 rfl ?_
              refine z_iload 151 dX10_keeps_149 rfl rfl ?_
              refine z_laldn 152 dX10_keeps_151 rfl (by first | assumption | rfl) (by omega) ?_
              rw [hO]
              refine z_goto 157 dX10_keeps_152 rfl ?_
              refine zs_lstore_7_10 159 rfl dX10_keeps_157 rfl rfl ?_
              refine zs_iinc_9_10_1 162 rfl dX10_keeps_159 rfl rfl ?_
              rw [nI_add]
              refine z_goto 57 dX10_keeps_162 rfl ?_
              by_cases hi0 : i = 0
              · subst hi0
                rw [if_pos rfl] at h120 h142
                try rw [if_pos rfl]
                rw [amn_1] at hih
                first
                  | (exfalso; omega)
                  | exact hih
              · rw [if_neg hi0] at h120 h142
                try rw [if_neg hi0]
                first
                  | (exfalso; omega)
                  | (rw [show amn (kpH S (sR S r)) (i + 1) = amn (kpH S (sR S r)) i from if_neg (by omega)] at hih; exact hih)
                  | (rw [show amn (kpH S (sR S r)) (i + 1) = i from if_pos (by omega)] at hih; exact hih)
          · rw [lg_cmp_ge] at h120
            rw [pk_lLE hLb (by omega)] at h120
            refine z_iload 125 dX10_keeps_123 rfl rfl ?_
            refine z_goto 130 dX10_keeps_125 rfl ?_
            refine zs_istore_6_10 132 rfl dX10_keeps_130 rfl rfl ?_
            refine z_aload_n 133 dX10_keeps_132 rfl rfl ?_
            refine gX10_56 136 rfl dX10_keeps_133 rfl ?_
            refine z_iload 138 dX10_keeps_136 rfl rfl ?_
            refine z_laldn 139 dX10_keeps_138 rfl (by first | assumption | rfl) (by omega) ?_
            rw [hO]
            refine z_lload 141 dX10_keeps_139 rfl rfl ?_
            refine z_lcmp 142 dX10_keeps_141 rfl ?_
            refine z_if_ge 155 145 dX10_keeps_142 (by decide) rfl (fun h142 => ?_) (fun h142 => ?_)
            · rw [lg_cmp_ge] at h142
              rw [pk_lLE hLb (by omega)] at h142
              refine z_lload 157 dX10_keeps_155 rfl rfl ?_
              refine zs_lstore_7_10 159 rfl dX10_keeps_157 rfl rfl ?_
              refine zs_iinc_9_10_1 162 rfl dX10_keeps_159 rfl rfl ?_
              rw [nI_add]
              refine z_goto 57 dX10_keeps_162 rfl ?_
              by_cases hi0 : i = 0
              · subst hi0
                rw [if_pos rfl] at h120 h142
                try rw [if_pos rfl]
                rw [amn_1] at hih
                first
                  | (exfalso; omega)
                  | exact hih
              · rw [if_neg hi0] at h120 h142
                try rw [if_neg hi0]
                first
                  | (exfalso; omega)
                  | (rw [show amn (kpH S (sR S r)) (i + 1) = amn (kpH S (sR S r)) i from if_neg (by omega)] at hih; exact hih)
                  | (rw [show amn (kpH S (sR S r)) (i + 1) = i from if_pos (by omega)] at hih; exact hih)
            · rw [lg_cmp_ge] at h142
              rw [pk_lLE hLb (by omega)] at h142
              refine z_aload_n 146 dX10_keeps_145 rfl rfl ?_
              refine gX10_56 149 rfl dX10_keeps_146 rfl ?_
              refine z_iload 151 dX10_keeps_149 rfl rfl ?_
              refine z_laldn 152 dX10_keeps_151 rfl (by first | assumption | rfl) (by omega) ?_
              rw [hO]
              refine z_goto 157 dX10_keeps_152 rfl ?_
              refine zs_lstore_7_10 159 rfl dX10_keeps_157 rfl rfl ?_
              refine zs_iinc_9_10_1 162 rfl dX10_keeps_159 rfl rfl ?_
              rw [nI_add]
              refine z_goto 57 dX10_keeps_162 rfl ?_
              by_cases hi0 : i = 0
              · subst hi0
                rw [if_pos rfl] at h120 h142
                try rw [if_pos rfl]
                rw [amn_1] at hih
                first
                  | (exfalso; omega)
                  | exact hih
              · rw [if_neg hi0] at h120 h142
                try rw [if_neg hi0]
                first
                  | (exfalso; omega)
                  | (rw [show amn (kpH S (sR S r)) (i + 1) = amn (kpH S (sR S r)) i from if_neg (by omega)] at hih; exact hih)
                  | (rw [show amn (kpH S (sR S r)) (i + 1) = i from if_pos (by omega)] at hih; exact hih)
        refine z_iload 59 dX10_keeps_57 rfl rfl ?_
        refine z_aload_n 60 dX10_keeps_59 rfl rfl ?_
        refine z_cVI0 63 (tX10_words (by assumption)) kX10_words dX10_keeps_60 rfl lX10_144 (by first | assumption | rfl) (Nat.le_of_ble_eq_true rfl) ?_
        rintro _ _ ⟨e1, e2⟩
        replace e1 := e1.symm
        replace e2 := e2.symm
        subst e1
        subst e2
        refine z_icmp_ge 165 66 dX10_keeps_63 (by decide) rfl (fun h63 => ?_) (fun h63 => ?_)
        · (try rw [nI_leI (by omega) (by omega)] at h63)
          omega
        · (try rw [nI_leI (by omega) (by omega)] at h63)
          refine z_aload_n 67 dX10_keeps_66 rfl rfl ?_
          refine z_iconst 68 (v := nI 0) dX10_keeps_67 rfl rfl ?_
          refine z_iload 70 dX10_keeps_68 rfl rfl ?_
          refine z_cVV2 73 (tX10_setOdds hW hR hT hB (show 0 < 8 by omega) hil) kX10_setOdds dX10_keeps_70 rfl lX10_241 (by first | assumption | rfl) (Nat.le_of_ble_eq_true rfl) ?_
          rintro τ1 ⟨hF1, hX1, hO1⟩
          have hF2 : Fr mS σ τ1 := hF.tr hF1 (fun _ _ h => h) fGo_mS
          have hB1 := hB.fr hF1 (by omega) (by intros; omega)
          have hOi : gl τ1 117 i = lN (kpH S (sR S r) i) := by (rw [hO1 i hil, eh])
          refine z_iload 75 dX10_keeps_73 rfl rfl ?_
          refine z_aload_n 76 dX10_keeps_75 rfl rfl ?_
          refine gX10_56 79 rfl dX10_keeps_76 rfl ?_
          refine z_iload 81 dX10_keeps_79 rfl rfl ?_
          refine z_laldn 82 dX10_keeps_81 rfl (by first | assumption | rfl) (by omega) ?_
          rw [hOi]
          refine z_iload_n 83 dX10_keeps_82 rfl rfl ?_
          refine z_i2l 84 dX10_keeps_83 rfl ?_
          rw [nI_l (by omega)]
          refine z_lmul 85 dX10_keeps_84 rfl ?_
          rw [lN_mul]
          refine z_aload_n 86 dX10_keeps_85 rfl rfl ?_
          refine z_cVI0 89 (tX10_steps hB1 n8) kX10_steps dX10_keeps_86 rfl lX10_232 (by first | assumption | rfl) (Nat.le_of_ble_eq_true rfl) ?_
          rintro _ _ ⟨e1, e2⟩
          replace e1 := e1.symm
          replace e2 := e2.symm
          subst e1
          subst e2
          refine z_cSJ1 92 (tX10_whole (by omega)) kX10_whole dX10_keeps_89 rfl lX10_244 (Nat.le_of_ble_eq_true rfl) ?_
          rintro _ _ ⟨e1, e2⟩
          replace e1 := e1.symm
          replace e2 := e2.symm
          subst e1
          subst e2
          refine z_iload_n 93 dX10_keeps_92 rfl rfl ?_
          refine z_i2l 94 dX10_keeps_93 rfl ?_
          rw [nI_l (by omega)]
          refine z_lmul 95 dX10_keeps_94 rfl ?_
          rw [lN_mul]
          refine z_lcmp 96 dX10_keeps_95 rfl ?_
          refine z_if_lt 106 99 dX10_keeps_96 (by decide) rfl (fun h96 => ?_) (fun h96 => ?_)
          · rw [lg_cmp_lt] at h96
            rw [pk_lLT (by omega) (by omega)] at h96
            refine z_iconst 107 (v := nI 0) dX10_keeps_106 rfl rfl ?_
            refine z_ior 108 dX10_keeps_107 rfl ?_
            first
              | exact fin τ1 _ hF2 hX1 hB1 hOi (by rw [← bs_f' (show kpB S (sR S r) a b i = false by unfold kpB; rw [ew]; exact decide_eq_false (by omega)), ← zb_or])
              | exact fin τ1 _ hF2 hX1 hB1 hOi (by rw [← bs_t (show kpB S (sR S r) a b i = true by unfold kpB; rw [ew]; exact decide_eq_true (by omega)), ← zb_or])
          · rw [lg_cmp_lt] at h96
            rw [pk_lLT (by omega) (by omega)] at h96
            refine z_iconst 100 (v := nI 1) dX10_keeps_99 rfl rfl ?_
            refine z_iload 102 dX10_keeps_100 rfl rfl ?_
            refine z_ishl 103 dX10_keeps_102 rfl ?_
            rw [zb_shl (by omega)]
            refine z_goto 107 dX10_keeps_103 rfl ?_
            refine z_ior 108 dX10_keeps_107 rfl ?_
            first
              | exact fin τ1 _ hF2 hX1 hB1 hOi (by rw [← bs_f' (show kpB S (sR S r) a b i = false by unfold kpB; rw [ew]; exact decide_eq_false (by omega)), ← zb_or])
              | exact fin τ1 _ hF2 hX1 hB1 hOi (by rw [← bs_t (show kpB S (sR S r) a b i = true by unfold kpB; rw [ew]; exact decide_eq_true (by omega)), ← zb_or])
    refine z_iload_n 1 dX10_keeps_0 rfl rfl ?_
    refine z_cSI1 4 (tX10_isRow) kX10_isRow dX10_keeps_1 rfl lX10_95 (Nat.le_of_ble_eq_true rfl) ?_
    rintro _ _ ⟨e1, e2⟩
    replace e1 := e1.symm
    replace e2 := e2.symm
    subst e1
    subst e2
    refine z_ifb_eq 26 7 dX10_keeps_4 (by decide) rfl (fun h4 => ?_) (fun h4 => ?_)
    · exact absurd b1 h4
    · refine z_iload_n 8 dX10_keeps_7 rfl rfl ?_
      refine z_iconst 9 (v := nI 1) dX10_keeps_8 rfl rfl ?_
      refine z_bipush 11 (v := nI 99) dX10_keeps_9 rfl rfl ?_
      refine z_cSI3 14 (tX10_in) kX10_in dX10_keeps_11 rfl lX10_91 (Nat.le_of_ble_eq_true rfl) ?_
      rintro _ _ ⟨e1, e2⟩
      replace e1 := e1.symm
      replace e2 := e2.symm
      subst e1
      subst e2
      refine z_ifb_eq 26 17 dX10_keeps_14 (by decide) rfl (fun h14 => ?_) (fun h14 => ?_)
      · exact absurd ⟨b5, b4⟩ h14
      · refine z_iload_n 18 dX10_keeps_17 rfl rfl ?_
        refine z_iconst 19 (v := nI 1) dX10_keeps_18 rfl rfl ?_
        refine z_iload_n 20 dX10_keeps_19 rfl rfl ?_
        refine z_cSI3 23 (tX10_in) kX10_in dX10_keeps_20 rfl lX10_91 (Nat.le_of_ble_eq_true rfl) ?_
        rintro _ _ ⟨e1, e2⟩
        replace e1 := e1.symm
        replace e2 := e2.symm
        subst e1
        subst e2
        refine z_ifb_ne 28 26 dX10_keeps_23 (by decide) rfl (fun h23 => ?_) (fun h23 => ?_)
        · refine z_aload_n 29 dX10_keeps_28 rfl rfl ?_
          refine z_iload_n 30 dX10_keeps_29 rfl rfl ?_
          refine z_cVI1 33 (tX10_askedTable hW hX hr) kX10_askedTable dX10_keeps_30 rfl lX10_238 (by first | assumption | rfl) (Nat.le_of_ble_eq_true rfl) ?_
          rintro x1 τ1 hx
          obtain ⟨_, e1, hF1, hX1, hB1⟩ := hx.resolve_right (fun z => z.1 hD)
          subst e1
          rw [hsz] at hB1
          refine zs_istore_4_10 35 rfl dX10_keeps_33 rfl rfl ?_
          refine z_iload 37 dX10_keeps_35 rfl rfl ?_
          refine z_if_ge 43 40 dX10_keeps_37 (by decide) rfl (fun h37 => ?_) (fun h37 => ?_)
          · refine z_iconst 44 (v := nI 0) dX10_keeps_43 rfl rfl ?_
            refine zs_istore_5_10 46 rfl dX10_keeps_44 rfl rfl ?_
            refine z_iconst 47 (v := nI 0) dX10_keeps_46 rfl rfl ?_
            refine zs_istore_6_10 49 rfl dX10_keeps_47 rfl rfl ?_
            refine z_ldc2 52 dX10_keeps_49 rfl qX10_257 ?_
            refine zs_lstore_7_10 54 rfl dX10_keeps_52 rfl rfl ?_
            refine z_iconst 55 (v := nI 0) dX10_keeps_54 rfl rfl ?_
            refine zs_istore_9_10 57 rfl dX10_keeps_55 rfl rfl ?_
            exact loop 0 (Nat.zero_le _) τ1 (hF1.mono fT_mS) hX1 hB1
          · exact absurd (nI_pos' (by decide)) h37
        · exact absurd ⟨b2, b3⟩ h23
  · rw [if_pos hD] at e0
    refine z_iload_n 1 dX10_keeps_0 rfl rfl ?_
    refine z_cSI1 4 (tX10_isRow) kX10_isRow dX10_keeps_1 rfl lX10_95 (Nat.le_of_ble_eq_true rfl) ?_
    rintro _ _ ⟨e1, e2⟩
    replace e1 := e1.symm
    replace e2 := e2.symm
    subst e1
    subst e2
    refine z_ifb_eq 26 7 dX10_keeps_4 (by decide) rfl (fun h4 => ?_) (fun h4 => ?_)
    · exact absurd b1 h4
    · refine z_iload_n 8 dX10_keeps_7 rfl rfl ?_
      refine z_iconst 9 (v := nI 1) dX10_keeps_8 rfl rfl ?_
      refine z_bipush 11 (v := nI 99) dX10_keeps_9 rfl rfl ?_
      refine z_cSI3 14 (tX10_in) kX10_in dX10_keeps_11 rfl lX10_91 (Nat.le_of_ble_eq_true rfl) ?_
      rintro _ _ ⟨e1, e2⟩
      replace e1 := e1.symm
      replace e2 := e2.symm
      subst e1
      subst e2
      refine z_ifb_eq 26 17 dX10_keeps_14 (by decide) rfl (fun h14 => ?_) (fun h14 => ?_)
      · exact absurd ⟨b5, b4⟩ h14
      · refine z_iload_n 18 dX10_keeps_17 rfl rfl ?_
        refine z_iconst 19 (v := nI 1) dX10_keeps_18 rfl rfl ?_
        refine z_iload_n 20 dX10_keeps_19 rfl rfl ?_
        refine z_cSI3 23 (tX10_in) kX10_in dX10_keeps_20 rfl lX10_91 (Nat.le_of_ble_eq_true rfl) ?_
        rintro _ _ ⟨e1, e2⟩
        replace e1 := e1.symm
        replace e2 := e2.symm
        subst e1
        subst e2
        refine z_ifb_ne 28 26 dX10_keeps_23 (by decide) rfl (fun h23 => ?_) (fun h23 => ?_)
        · refine z_aload_n 29 dX10_keeps_28 rfl rfl ?_
          refine z_iload_n 30 dX10_keeps_29 rfl rfl ?_
          refine z_cVI1 33 (tX10_askedTable hW hX hr) kX10_askedTable dX10_keeps_30 rfl lX10_238 (by first | assumption | rfl) (Nat.le_of_ble_eq_true rfl) ?_
          rintro x1 τ1 hx
          obtain ⟨_, e1, e2⟩ := hx.resolve_left (fun z => hD z.1)
          subst e1
          subst e2
          refine zs_istore_4_10 35 rfl dX10_keeps_33 rfl rfl ?_
          refine z_iload 37 dX10_keeps_35 rfl rfl ?_
          refine z_if_ge 43 40 dX10_keeps_37 (by decide) rfl (fun h37 => ?_) (fun h37 => ?_)
          · exact absurd h37 (by decide)
          · refine z_iload 42 dX10_keeps_40 rfl rfl ?_
            refine z_ri dX10_keeps_42 rfl ?_
            exact qmf hW e0 hpl hX Fr.rf
        · exact absurd ⟨b2, b3⟩ h23
/-! was -/
def waA (S : sS) (o : sRow) (v n : Nat) : Nat := fsum (fun w => odR S o 0 w v) n
def waR (S : sS) (o : sRow) (v w : Nat) : Int32 × sS := if waA S o v (sBw S 0) = 0 then sFd S 4 else sTell S (odR S o 0 w v) (waA S o v (sBw S 0)) (nI 1)
def spWas (S : sS) (r v w : Int32) : Int32 × sS := if ¬ (inN r 6 ∧ inN v (sBw S 0) ∧ inN w (sBw S 0)) then (-1, S) else if ¬ sTf S (sR S (zx r)) = 0 then sFd S (sTf S (sR S (zx r))) else waR S (sR S (zx r)) (zx v) (zx w)
set_option maxRecDepth 20000 in
theorem tX9_was {E : zE} {d : Nat} {σ : zM} {S : sS} {r v w : Int32} (hW : WF S) (hX : RX S σ) : Ret E mX9_was (d + 5) [zr E 0, .int r, .int v, .int w] σ (qX σ (spWas S r v w)) := by
  have h8 := hW.2.1.1
  have hb8 := bw_le hW (show 0 < 2 by omega)
  by_cases hA : ¬ (inN r 6 ∧ inN v (sBw S 0) ∧ inN w (sBw S 0))
  · refine Ret.of [some (zr E 0), some (.int r), some (.int v), some (.int w), none, none, none, none] (by decide +kernel) (Nat.le_of_ble_eq_true rfl) rfl ?_
    refine z_iload_n 1 dX9_was_0 rfl rfl ?_
    refine z_cSI1 4 (tX9_isRow) kX9_isRow dX9_was_1 rfl lX9_83 (Nat.le_of_ble_eq_true rfl) ?_
    rintro _ _ ⟨e1, e2⟩
    replace e1 := e1.symm
    replace e2 := e2.symm
    subst e1
    subst e2
    refine z_ifb_eq 23 7 dX9_was_4 (by decide) rfl (fun h4 => ?_) (fun h4 => ?_)
    · refine z_iconst 24 (v := (-1)) dX9_was_23 rfl rfl ?_
      refine z_ri dX9_was_24 rfl ?_
      exact qx0 (if_pos hA) hX Fr.rf
    · refine z_aload_n 8 dX9_was_7 rfl rfl ?_
      refine z_iload_n 9 dX9_was_8 rfl rfl ?_
      refine z_cVI1 12 (tX9_isWord (by assumption) (by assumption)) kX9_isWord dX9_was_9 rfl lX9_165 (by first | assumption | rfl) (Nat.le_of_ble_eq_true rfl) ?_
      rintro _ _ ⟨e1, e2⟩
      replace e1 := e1.symm
      replace e2 := e2.symm
      subst e1
      subst e2
      refine z_ifb_eq 23 15 dX9_was_12 (by decide) rfl (fun h12 => ?_) (fun h12 => ?_)
      · refine z_iconst 24 (v := (-1)) dX9_was_23 rfl rfl ?_
        refine z_ri dX9_was_24 rfl ?_
        exact qx0 (if_pos hA) hX Fr.rf
      · refine z_aload_n 16 dX9_was_15 rfl rfl ?_
        refine z_iload_n 17 dX9_was_16 rfl rfl ?_
        refine z_cVI1 20 (tX9_isWord (by assumption) (by assumption)) kX9_isWord dX9_was_17 rfl lX9_165 (by first | assumption | rfl) (Nat.le_of_ble_eq_true rfl) ?_
        rintro _ _ ⟨e1, e2⟩
        replace e1 := e1.symm
        replace e2 := e2.symm
        subst e1
        subst e2
        refine z_ifb_ne 25 23 dX9_was_20 (by decide) rfl (fun h20 => ?_) (fun h20 => ?_)
        · exact absurd ⟨h4, h12, h20⟩ hA
        · refine z_iconst 24 (v := (-1)) dX9_was_23 rfl rfl ?_
          refine z_ri dX9_was_24 rfl ?_
          exact qx0 (if_pos hA) hX Fr.rf
  have e0 : spWas S r v w = _ := if_neg hA
  have hA := Classical.not_not.mp hA
  have hA' := hA
  obtain ⟨a1, a2, a3⟩ := hA
  obtain ⟨r, hr, rfl⟩ := inN_of a1
  obtain ⟨v, hv, rfl⟩ := inN_of a2
  obtain ⟨w, hw, rfl⟩ := inN_of a3
  obtain ⟨b1, b2, b3⟩ := hA'
  rw [zx_nI (by omega), zx_nI (by omega), zx_nI (by omega)] at e0
  have hpl := sTf_lt S (sR S r)
  refine Ret.of [some (zr E 0), some (.int (nI r)), some (.int (nI v)), some (.int (nI w)), none, none, none, none] (by decide +kernel) (Nat.le_of_ble_eq_true rfl) rfl ?_
  by_cases hD : sTf S (sR S r) = 0
  · rw [if_neg (fun z => z hD)] at e0
    obtain ⟨q, hq, hT, hqg⟩ := sTf0 hD
    have hsz : sSz (sR S r) = q.1 := by rw [hq]; rfl
    have n2 := hT.1.1
    have n8 := hT.1.2.1
    have eh : ∀ x, odN S (gOf (sR S r)) q.1 0 (eW x) (q.1 / 2) v = odR S (sR S r) 0 x v := fun x => by unfold odR; rw [hsz]
    have o2 := p24 (show q.1 / 2 ≤ 4 by omega)
    have hh : ∀ x, x < sBw S 0 → odR S (sR S r) 0 x v ≤ 331776 := fun x hx => by
      have := odN_le hW hT 0 hx (q.1 / 2) hv
      rw [eh] at this
      omega
    have hs : ∀ i, i ≤ sBw S 0 → waA S (sR S r) v i ≤ 331776 * i := fun i hi => fsum_bd i (fun x hx => hh x (by omega))
    have loop : ∀ i, i ≤ sBw S 0 → ∀ τ, Fr xS σ τ → RX S τ → RdT τ q.1 (sBw S 0) (gOf (sR S r)) → (∀ j, j < q.1 → StK S τ (gOf (sR S r) j) (gOf (sR S r) ((j + 1) % q.1))) → At E mX9_was (d + 5) (qX σ (spWas S (nI r) (nI v) (nI w))) 58 [some (zr E 0), some (.int (nI r)), some (.int (nI v)), some (.int (nI w)), some (.int (nI 0)), some (.long (lN (waA S (sR S r) v i))), none, some (.int (nI i))] [] τ := by
      refine z_up (fun i hi ih τ hF hR hD hS => ?_)
      have hsi := hs i hi
      by_cases hie : i = sBw S 0
      · rw [hie] at hsi ⊢
        by_cases hz : waA S (sR S r) v (sBw S 0) = 0
        · rw [show waR S (sR S r) v w = _ from if_pos hz] at e0
          rw [hz]
          refine z_iload 60 dX9_was_58 rfl rfl ?_
          refine z_aload_n 61 dX9_was_60 rfl rfl ?_
          refine gX9_60 64 rfl dX9_was_61 rfl ?_
          refine gX9_256 67 rfl dX9_was_64 rfl (by first | assumption | rfl) ?_
          rw [hD.2.1]
          refine z_icmp_ge 92 70 dX9_was_67 (by decide) rfl (fun h67 => ?_) (fun h67 => ?_)
          · (try rw [nI_leI (by omega) (by omega)] at h67)
            refine z_lload 94 dX9_was_92 rfl rfl ?_
            refine z_lconst 95 (v := 0) dX9_was_94 rfl rfl ?_
            refine z_lcmp 96 dX9_was_95 rfl ?_
            refine z_if_ne 108 99 dX9_was_96 (by decide) rfl (fun h96 => ?_) (fun h96 => ?_)
            · rw [lg_cmp_eq] at h96
              exact absurd rfl h96
            · rw [lg_cmp_eq] at h96
              refine z_aload_n 100 dX9_was_99 rfl rfl ?_
              refine gX9_39 103 rfl dX9_was_100 rfl ?_
              refine z_iconst 104 (v := nI 4) dX9_was_103 rfl rfl ?_
              refine z_cVI1 107 (tX0_found (by omega) (by omega)) kX0_found dX9_was_104 rfl lX9_87 (by first | assumption | rfl) (Nat.le_of_ble_eq_true rfl) ?_
              rintro _ _ ⟨e1, e2⟩
              replace e1 := e1.symm
              replace e2 := e2.symm
              subst e1
              subst e2
              refine z_ri dX9_was_107 rfl ?_
              exact qxf hW e0 (by decide) hR (hF.mono xS_all)
          · (try rw [nI_leI (by omega) (by omega)] at h67)
            omega
        · rw [show waR S (sR S r) v w = _ from if_neg hz] at e0
          have hhw := hh w hw
          refine z_iload 60 dX9_was_58 rfl rfl ?_
          refine z_aload_n 61 dX9_was_60 rfl rfl ?_
          refine gX9_60 64 rfl dX9_was_61 rfl ?_
          refine gX9_256 67 rfl dX9_was_64 rfl (by first | assumption | rfl) ?_
          rw [hD.2.1]
          refine z_icmp_ge 92 70 dX9_was_67 (by decide) rfl (fun h67 => ?_) (fun h67 => ?_)
          · (try rw [nI_leI (by omega) (by omega)] at h67)
            refine z_lload 94 dX9_was_92 rfl rfl ?_
            refine z_lconst 95 (v := 0) dX9_was_94 rfl rfl ?_
            refine z_lcmp 96 dX9_was_95 rfl ?_
            refine z_if_ne 108 99 dX9_was_96 (by decide) rfl (fun h96 => ?_) (fun h96 => ?_)
            · rw [lg_cmp_eq] at h96
              refine z_aload_n 109 dX9_was_108 rfl rfl ?_
              refine gX9_39 112 rfl dX9_was_109 rfl ?_
              refine z_aload_n 113 dX9_was_112 rfl rfl ?_
              refine gX9_60 116 rfl dX9_was_113 rfl ?_
              refine z_iconst 117 (v := nI 0) dX9_was_116 rfl rfl ?_
              refine z_iload_n 118 dX9_was_117 rfl rfl ?_
              refine z_iload_n 119 dX9_was_118 rfl rfl ?_
              refine z_cVJ3 122 (tX5_reach hW hT hD (show 0 < 8 by omega) (adj_of (by omega) hS 0) hw hv) kX5_reach dX9_was_119 rfl lX9_239 (by first | assumption | rfl) (Nat.le_of_ble_eq_true rfl) ?_
              rintro _ τ1 ⟨e1, hF1⟩
              subst e1
              have hX1 : RX S τ1 := hR.scr hW (hF1.mono fOd_xS)
              have hF2 : Fr xS σ τ1 := hF.tr hF1 (fun _ _ h => h) fOd_xS
              rw [eh]
              refine z_lload 124 dX9_was_122 rfl rfl ?_
              refine z_cVI2 127 (tX0_tell (by omega) (by omega) (by omega)) kX0_tell dX9_was_124 rfl lX9_246 (by first | assumption | rfl) (Nat.le_of_ble_eq_true rfl) ?_
              rintro _ _ ⟨e1, e2⟩
              replace e1 := e1.symm
              replace e2 := e2.symm
              subst e1
              subst e2
              refine z_ri dX9_was_127 rfl ?_
              exact qxt hW e0 hX1 (hF2.mono xS_all)
            · rw [lg_cmp_eq] at h96
              exact absurd ((pk_lEQ (by omega) (by decide)).mp h96) hz
          · (try rw [nI_leI (by omega) (by omega)] at h67)
            omega
      · have hil : i < sBw S 0 := by omega
        refine z_iload 60 dX9_was_58 rfl rfl ?_
        refine z_aload_n 61 dX9_was_60 rfl rfl ?_
        refine gX9_60 64 rfl dX9_was_61 rfl ?_
        refine gX9_256 67 rfl dX9_was_64 rfl (by first | assumption | rfl) ?_
        rw [hD.2.1]
        refine z_icmp_ge 92 70 dX9_was_67 (by decide) rfl (fun h67 => ?_) (fun h67 => ?_)
        · (try rw [nI_leI (by omega) (by omega)] at h67)
          omega
        · (try rw [nI_leI (by omega) (by omega)] at h67)
          refine z_lload 72 dX9_was_70 rfl rfl ?_
          refine z_aload_n 73 dX9_was_72 rfl rfl ?_
          refine gX9_60 76 rfl dX9_was_73 rfl ?_
          refine z_iconst 77 (v := nI 0) dX9_was_76 rfl rfl ?_
          refine z_iload 79 dX9_was_77 rfl rfl ?_
          refine z_iload_n 80 dX9_was_79 rfl rfl ?_
          refine z_cVJ3 83 (tX5_reach hW hT hD (show 0 < 8 by omega) (adj_of (by omega) hS 0) hil hv) kX5_reach dX9_was_80 rfl lX9_239 (by first | assumption | rfl) (Nat.le_of_ble_eq_true rfl) ?_
          rintro _ τ1 ⟨e1, hF1⟩
          subst e1
          have hX1 : RX S τ1 := hR.scr hW (hF1.mono fOd_xS)
          have hF2 : Fr xS σ τ1 := hF.tr hF1 (fun _ _ h => h) fOd_xS
          have hD1 := hD.fr hF1 (by omega) (by omega) (by intros; omega)
          have hS1 : ∀ j, j < q.1 → StK S τ1 (gOf (sR S r) j) (gOf (sR S r) ((j + 1) % q.1)) := fun j hj => (hS j hj).fr hF1 (by intros; omega)
          rw [eh]
          refine z_ladd 84 dX9_was_83 rfl ?_
          rw [lN_add]
          refine zs_lstore_5_8 86 rfl dX9_was_84 rfl rfl ?_
          refine zs_iinc_7_8_1 89 rfl dX9_was_86 rfl rfl ?_
          rw [nI_add]
          refine z_goto 58 dX9_was_89 rfl ?_
          exact ih (i + 1) (by omega) (by omega) τ1 hF2 hX1 hD1 hS1
    refine z_iload_n 1 dX9_was_0 rfl rfl ?_
    refine z_cSI1 4 (tX9_isRow) kX9_isRow dX9_was_1 rfl lX9_83 (Nat.le_of_ble_eq_true rfl) ?_
    rintro _ _ ⟨e1, e2⟩
    replace e1 := e1.symm
    replace e2 := e2.symm
    subst e1
    subst e2
    refine z_ifb_eq 23 7 dX9_was_4 (by decide) rfl (fun h4 => ?_) (fun h4 => ?_)
    · exact absurd b1 h4
    · refine z_aload_n 8 dX9_was_7 rfl rfl ?_
      refine z_iload_n 9 dX9_was_8 rfl rfl ?_
      refine z_cVI1 12 (tX9_isWord (by assumption) (by assumption)) kX9_isWord dX9_was_9 rfl lX9_165 (by first | assumption | rfl) (Nat.le_of_ble_eq_true rfl) ?_
      rintro _ _ ⟨e1, e2⟩
      replace e1 := e1.symm
      replace e2 := e2.symm
      subst e1
      subst e2
      refine z_ifb_eq 23 15 dX9_was_12 (by decide) rfl (fun h12 => ?_) (fun h12 => ?_)
      · exact absurd b2 h12
      · refine z_aload_n 16 dX9_was_15 rfl rfl ?_
        refine z_iload_n 17 dX9_was_16 rfl rfl ?_
        refine z_cVI1 20 (tX9_isWord (by assumption) (by assumption)) kX9_isWord dX9_was_17 rfl lX9_165 (by first | assumption | rfl) (Nat.le_of_ble_eq_true rfl) ?_
        rintro _ _ ⟨e1, e2⟩
        replace e1 := e1.symm
        replace e2 := e2.symm
        subst e1
        subst e2
        refine z_ifb_ne 25 23 dX9_was_20 (by decide) rfl (fun h20 => ?_) (fun h20 => ?_)
        · refine z_aload_n 26 dX9_was_25 rfl rfl ?_
          refine z_iload_n 27 dX9_was_26 rfl rfl ?_
          refine z_cVI1 30 (tX9_tableFault hW hX hr) kX9_tableFault dX9_was_27 rfl lX9_233 (by first | assumption | rfl) (Nat.le_of_ble_eq_true rfl) ?_
          rintro _ _ ⟨e1, e2⟩
          replace e1 := e1.symm
          replace e2 := e2.symm
          subst e1
          subst e2
          rw [hD]
          refine zs_istore_4_8 32 rfl dX9_was_30 rfl rfl ?_
          refine z_iload 34 dX9_was_32 rfl rfl ?_
          refine z_if_eq 47 37 dX9_was_34 (by decide) rfl (fun h34 => ?_) (fun h34 => ?_)
          · (try rw [nI_eq0 (by omega)] at h34)
            refine z_aload_n 48 dX9_was_47 rfl rfl ?_
            refine z_iload_n 49 dX9_was_48 rfl rfl ?_
            refine z_cVV1 52 (tX9_seatTable (t := gOf (sR S r)) hW hX hr hq hT hqg) kX9_seatTable dX9_was_49 rfl lX9_236 (by first | assumption | rfl) (Nat.le_of_ble_eq_true rfl) ?_
            rintro τ1 ⟨hF1, hX1, hD1, hS1⟩
            refine z_lconst 53 (v := 0) dX9_was_52 rfl rfl ?_
            refine zs_lstore_5_8 55 rfl dX9_was_53 rfl rfl ?_
            refine z_iconst 56 (v := nI 0) dX9_was_55 rfl rfl ?_
            refine zs_istore_7_8 58 rfl dX9_was_56 rfl rfl ?_
            exact loop 0 (Nat.zero_le _) τ1 (hF1.mono fSt_xS) hX1 hD1 hS1
          · (try rw [nI_eq0 (by omega)] at h34)
            exact absurd rfl h34
        · exact absurd b3 h20
  · rw [if_pos hD] at e0
    refine z_iload_n 1 dX9_was_0 rfl rfl ?_
    refine z_cSI1 4 (tX9_isRow) kX9_isRow dX9_was_1 rfl lX9_83 (Nat.le_of_ble_eq_true rfl) ?_
    rintro _ _ ⟨e1, e2⟩
    replace e1 := e1.symm
    replace e2 := e2.symm
    subst e1
    subst e2
    refine z_ifb_eq 23 7 dX9_was_4 (by decide) rfl (fun h4 => ?_) (fun h4 => ?_)
    · exact absurd b1 h4
    · refine z_aload_n 8 dX9_was_7 rfl rfl ?_
      refine z_iload_n 9 dX9_was_8 rfl rfl ?_
      refine z_cVI1 12 (tX9_isWord (by assumption) (by assumption)) kX9_isWord dX9_was_9 rfl lX9_165 (by first | assumption | rfl) (Nat.le_of_ble_eq_true rfl) ?_
      rintro _ _ ⟨e1, e2⟩
      replace e1 := e1.symm
      replace e2 := e2.symm
      subst e1
      subst e2
      refine z_ifb_eq 23 15 dX9_was_12 (by decide) rfl (fun h12 => ?_) (fun h12 => ?_)
      · exact absurd b2 h12
      · refine z_aload_n 16 dX9_was_15 rfl rfl ?_
        refine z_iload_n 17 dX9_was_16 rfl rfl ?_
        refine z_cVI1 20 (tX9_isWord (by assumption) (by assumption)) kX9_isWord dX9_was_17 rfl lX9_165 (by first | assumption | rfl) (Nat.le_of_ble_eq_true rfl) ?_
        rintro _ _ ⟨e1, e2⟩
        replace e1 := e1.symm
        replace e2 := e2.symm
        subst e1
        subst e2
        refine z_ifb_ne 25 23 dX9_was_20 (by decide) rfl (fun h20 => ?_) (fun h20 => ?_)
        · refine z_aload_n 26 dX9_was_25 rfl rfl ?_
          refine z_iload_n 27 dX9_was_26 rfl rfl ?_
          refine z_cVI1 30 (tX9_tableFault hW hX hr) kX9_tableFault dX9_was_27 rfl lX9_233 (by first | assumption | rfl) (Nat.le_of_ble_eq_true rfl) ?_
          rintro _ _ ⟨e1, e2⟩
          replace e1 := e1.symm
          replace e2 := e2.symm
          subst e1
          subst e2
          refine zs_istore_4_8 32 rfl dX9_was_30 rfl rfl ?_
          refine z_iload 34 dX9_was_32 rfl rfl ?_
          refine z_if_eq 47 37 dX9_was_34 (by decide) rfl (fun h34 => ?_) (fun h34 => ?_)
          · (try rw [nI_eq0 (by omega)] at h34)
            exact absurd h34 hD
          · (try rw [nI_eq0 (by omega)] at h34)
            refine z_aload_n 38 dX9_was_37 rfl rfl ?_
            refine gX9_39 41 rfl dX9_was_38 rfl ?_
            refine z_iload 43 dX9_was_41 rfl rfl ?_
            refine z_cVI1 46 (tX0_found (by omega) hpl) kX0_found dX9_was_43 rfl lX9_87 (by first | assumption | rfl) (Nat.le_of_ble_eq_true rfl) ?_
            rintro _ _ ⟨e1, e2⟩
            replace e1 := e1.symm
            replace e2 := e2.symm
            subst e1
            subst e2
            refine z_ri dX9_was_46 rfl ?_
            exact qxf hW e0 hpl hX Fr.rf
        · exact absurd b3 h20
set_option maxRecDepth 20000 in
theorem tX10_was {E : zE} {d : Nat} {σ : zM} {S : sS} {r v w : Int32} (hW : WF S) (hX : RM S σ) : Ret E mX10_was (d + 9) [zr E 102, .int r, .int v, .int w] σ (qM σ (spWas S r v w)) := by
  have h8 := hW.2.1.1
  have hb8 := bw_le hW (show 0 < 2 by omega)
  by_cases hA : ¬ (inN r 6 ∧ inN v (sBw S 0) ∧ inN w (sBw S 0))
  · refine Ret.of [some (zr E 102), some (.int r), some (.int v), some (.int w), none, none, none, none, none, none] (by decide +kernel) (Nat.le_of_ble_eq_true rfl) rfl ?_
    refine z_iload_n 1 dX10_was_0 rfl rfl ?_
    refine z_cSI1 4 (tX10_isRow) kX10_isRow dX10_was_1 rfl lX10_95 (Nat.le_of_ble_eq_true rfl) ?_
    rintro _ _ ⟨e1, e2⟩
    replace e1 := e1.symm
    replace e2 := e2.symm
    subst e1
    subst e2
    refine z_ifb_eq 23 7 dX10_was_4 (by decide) rfl (fun h4 => ?_) (fun h4 => ?_)
    · refine z_iconst 24 (v := (-1)) dX10_was_23 rfl rfl ?_
      refine z_ri dX10_was_24 rfl ?_
      exact qm0 (if_pos hA) hX Fr.rf
    · refine z_aload_n 8 dX10_was_7 rfl rfl ?_
      refine z_iload_n 9 dX10_was_8 rfl rfl ?_
      refine z_cVI1 12 (tX10_isWord (by assumption) (by assumption)) kX10_isWord dX10_was_9 rfl lX10_151 (by first | assumption | rfl) (Nat.le_of_ble_eq_true rfl) ?_
      rintro _ _ ⟨e1, e2⟩
      replace e1 := e1.symm
      replace e2 := e2.symm
      subst e1
      subst e2
      refine z_ifb_eq 23 15 dX10_was_12 (by decide) rfl (fun h12 => ?_) (fun h12 => ?_)
      · refine z_iconst 24 (v := (-1)) dX10_was_23 rfl rfl ?_
        refine z_ri dX10_was_24 rfl ?_
        exact qm0 (if_pos hA) hX Fr.rf
      · refine z_aload_n 16 dX10_was_15 rfl rfl ?_
        refine z_iload_n 17 dX10_was_16 rfl rfl ?_
        refine z_cVI1 20 (tX10_isWord (by assumption) (by assumption)) kX10_isWord dX10_was_17 rfl lX10_151 (by first | assumption | rfl) (Nat.le_of_ble_eq_true rfl) ?_
        rintro _ _ ⟨e1, e2⟩
        replace e1 := e1.symm
        replace e2 := e2.symm
        subst e1
        subst e2
        refine z_ifb_ne 25 23 dX10_was_20 (by decide) rfl (fun h20 => ?_) (fun h20 => ?_)
        · exact absurd ⟨h4, h12, h20⟩ hA
        · refine z_iconst 24 (v := (-1)) dX10_was_23 rfl rfl ?_
          refine z_ri dX10_was_24 rfl ?_
          exact qm0 (if_pos hA) hX Fr.rf
  have e0 : spWas S r v w = _ := if_neg hA
  have hA := Classical.not_not.mp hA
  have hA' := hA
  obtain ⟨a1, a2, a3⟩ := hA
  obtain ⟨r, hr, rfl⟩ := inN_of a1
  obtain ⟨v, hv, rfl⟩ := inN_of a2
  obtain ⟨w, hw, rfl⟩ := inN_of a3
  obtain ⟨b1, b2, b3⟩ := hA'
  rw [zx_nI (by omega), zx_nI (by omega), zx_nI (by omega)] at e0
  have hpl := sTf_lt S (sR S r)
  refine Ret.of [some (zr E 102), some (.int (nI r)), some (.int (nI v)), some (.int (nI w)), none, none, none, none, none, none] (by decide +kernel) (Nat.le_of_ble_eq_true rfl) rfl ?_
  by_cases hD : sTf S (sR S r) = 0
  · rw [if_neg (fun z => z hD)] at e0
    obtain ⟨q, hq, hT, hqg⟩ := sTf0 hD
    have hsz : sSz (sR S r) = q.1 := by rw [hq]; rfl
    have n2 := hT.1.1
    have n8 := hT.1.2.1
    have eh : ∀ x, odN S (gOf (sR S r)) q.1 0 (eW x) (q.1 / 2) v = odR S (sR S r) 0 x v := fun x => by unfold odR; rw [hsz]
    have o2 := p24 (show q.1 / 2 ≤ 4 by omega)
    have hh : ∀ x, x < sBw S 0 → odR S (sR S r) 0 x v ≤ 331776 := fun x hx => by
      have := odN_le hW hT 0 hx (q.1 / 2) hv
      rw [eh] at this
      omega
    have hs : ∀ i, i ≤ sBw S 0 → waA S (sR S r) v i ≤ 331776 * i := fun i hi => fsum_bd i (fun x hx => hh x (by omega))
    have loop : ∀ i, i ≤ sBw S 0 → ∀ τ, Fr mS σ τ → RM S τ → mTb τ q.1 (gOf (sR S r)) → At E mX10_was (d + 9) (qM σ (spWas S (nI r) (nI v) (nI w))) 49 [some (zr E 102), some (.int (nI r)), some (.int (nI v)), some (.int (nI w)), some (.int (nI 0)), some (.long (lN (waA S (sR S r) v i))), none, some (.long (lN (if w < i then odR S (sR S r) 0 w v else 0))), none, some (.int (nI i))] [] τ := by
      refine z_up (fun i hi ih τ hF hR hB => ?_)
      have hsi := hs i hi
      by_cases hie : i = sBw S 0
      · rw [hie] at hsi ⊢
        rw [if_pos hw]
        by_cases hz : waA S (sR S r) v (sBw S 0) = 0
        · rw [show waR S (sR S r) v w = _ from if_pos hz] at e0
          rw [hz]
          refine z_iload 51 dX10_was_49 rfl rfl ?_
          refine z_aload_n 52 dX10_was_51 rfl rfl ?_
          refine z_cVI0 55 (tX10_words (by assumption)) kX10_words dX10_was_52 rfl lX10_144 (by first | assumption | rfl) (Nat.le_of_ble_eq_true rfl) ?_
          rintro _ _ ⟨e1, e2⟩
          replace e1 := e1.symm
          replace e2 := e2.symm
          subst e1
          subst e2
          refine z_icmp_ge 101 58 dX10_was_55 (by decide) rfl (fun h55 => ?_) (fun h55 => ?_)
          · (try rw [nI_leI (by omega) (by omega)] at h55)
            refine z_lload 103 dX10_was_101 rfl rfl ?_
            refine z_lconst 104 (v := 0) dX10_was_103 rfl rfl ?_
            refine z_lcmp 105 dX10_was_104 rfl ?_
            refine z_if_ne 116 108 dX10_was_105 (by decide) rfl (fun h105 => ?_) (fun h105 => ?_)
            · rw [lg_cmp_eq] at h105
              exact absurd rfl h105
            · rw [lg_cmp_eq] at h105
              refine z_aload_n 109 dX10_was_108 rfl rfl ?_
              refine z_iconst 110 (v := nI 4) dX10_was_109 rfl rfl ?_
              refine z_cVI1 113 (tX10_meets (by omega)) kX10_meets dX10_was_110 rfl lX10_99 (by first | assumption | rfl) (Nat.le_of_ble_eq_true rfl) ?_
              rintro _ _ ⟨e1, e2⟩
              replace e1 := e1.symm
              replace e2 := e2.symm
              subst e1
              subst e2
              refine z_goto 125 dX10_was_113 rfl ?_
              refine z_ri dX10_was_125 rfl ?_
              exact qmf hW e0 (by decide) hR (hF.mono mS_all)
          · (try rw [nI_leI (by omega) (by omega)] at h55)
            omega
        · rw [show waR S (sR S r) v w = _ from if_neg hz] at e0
          have hhw := hh w hw
          refine z_iload 51 dX10_was_49 rfl rfl ?_
          refine z_aload_n 52 dX10_was_51 rfl rfl ?_
          refine z_cVI0 55 (tX10_words (by assumption)) kX10_words dX10_was_52 rfl lX10_144 (by first | assumption | rfl) (Nat.le_of_ble_eq_true rfl) ?_
          rintro _ _ ⟨e1, e2⟩
          replace e1 := e1.symm
          replace e2 := e2.symm
          subst e1
          subst e2
          refine z_icmp_ge 101 58 dX10_was_55 (by decide) rfl (fun h55 => ?_) (fun h55 => ?_)
          · (try rw [nI_leI (by omega) (by omega)] at h55)
            refine z_lload 103 dX10_was_101 rfl rfl ?_
            refine z_lconst 104 (v := 0) dX10_was_103 rfl rfl ?_
            refine z_lcmp 105 dX10_was_104 rfl ?_
            refine z_if_ne 116 108 dX10_was_105 (by decide) rfl (fun h105 => ?_) (fun h105 => ?_)
            · rw [lg_cmp_eq] at h105
              refine z_aload_n 117 dX10_was_116 rfl rfl ?_
              refine z_lload 119 dX10_was_117 rfl rfl ?_
              refine z_lload 121 dX10_was_119 rfl rfl ?_
              refine z_iconst 122 (v := nI 1) dX10_was_121 rfl rfl ?_
              refine z_cVI3 125 (tX10_part (by omega) (by omega) (by omega)) kX10_part dX10_was_122 rfl lX10_248 (by first | assumption | rfl) (Nat.le_of_ble_eq_true rfl) ?_
              rintro _ _ ⟨e1, e2⟩
              replace e1 := e1.symm
              replace e2 := e2.symm
              subst e1
              subst e2
              refine z_ri dX10_was_125 rfl ?_
              exact qmt hW e0 hR (hF.mono mS_all)
            · rw [lg_cmp_eq] at h105
              exact absurd ((pk_lEQ (by omega) (by decide)).mp h105) hz
          · (try rw [nI_leI (by omega) (by omega)] at h55)
            omega
      · have hil : i < sBw S 0 := by omega
        refine z_iload 51 dX10_was_49 rfl rfl ?_
        refine z_aload_n 52 dX10_was_51 rfl rfl ?_
        refine z_cVI0 55 (tX10_words (by assumption)) kX10_words dX10_was_52 rfl lX10_144 (by first | assumption | rfl) (Nat.le_of_ble_eq_true rfl) ?_
        rintro _ _ ⟨e1, e2⟩
        replace e1 := e1.symm
        replace e2 := e2.symm
        subst e1
        subst e2
        refine z_icmp_ge 101 58 dX10_was_55 (by decide) rfl (fun h55 => ?_) (fun h55 => ?_)
        · (try rw [nI_leI (by omega) (by omega)] at h55)
          omega
        · (try rw [nI_leI (by omega) (by omega)] at h55)
          refine z_aload_n 59 dX10_was_58 rfl rfl ?_
          refine z_iconst 60 (v := nI 0) dX10_was_59 rfl rfl ?_
          refine z_iload 62 dX10_was_60 rfl rfl ?_
          refine z_cVV2 65 (tX10_setOdds hW hR hT hB (show 0 < 8 by omega) hil) kX10_setOdds dX10_was_62 rfl lX10_241 (by first | assumption | rfl) (Nat.le_of_ble_eq_true rfl) ?_
          rintro τ1 ⟨hF1, hX1, hO1⟩
          have hF2 : Fr mS σ τ1 := hF.tr hF1 (fun _ _ h => h) fGo_mS
          have hB1 := hB.fr hF1 (by omega) (by intros; omega)
          have hOv : gl τ1 117 v = lN (odR S (sR S r) 0 i v) := by (rw [hO1 v hv, eh])
          refine z_lload 67 dX10_was_65 rfl rfl ?_
          refine z_aload_n 68 dX10_was_67 rfl rfl ?_
          refine gX10_56 71 rfl dX10_was_68 rfl ?_
          refine z_iload_n 72 dX10_was_71 rfl rfl ?_
          refine z_laldn 73 dX10_was_72 rfl (by first | assumption | rfl) (by omega) ?_
          rw [hOv]
          refine z_ladd 74 dX10_was_73 rfl ?_
          rw [lN_add]
          refine zs_lstore_5_10 76 rfl dX10_was_74 rfl rfl ?_
          refine z_iload 78 dX10_was_76 rfl rfl ?_
          refine z_iload_n 79 dX10_was_78 rfl rfl ?_
          refine z_icmp_ne 91 82 dX10_was_79 (by decide) rfl (fun h79 => ?_) (fun h79 => ?_)
          · (try rw [nI_eq (by omega) (by omega)] at h79)
            have er : (if w < i + 1 then odR S (sR S r) 0 w v else 0) = (if w < i then odR S (sR S r) 0 w v else 0) := ifc ⟨fun z => by omega, fun z => by omega⟩
            refine z_lload 93 dX10_was_91 rfl rfl ?_
            refine zs_lstore_7_10 95 rfl dX10_was_93 rfl rfl ?_
            refine zs_iinc_9_10_1 98 rfl dX10_was_95 rfl rfl ?_
            rw [nI_add]
            refine z_goto 49 dX10_was_98 rfl ?_
            have hih := ih (i + 1) (by omega) (by omega) τ1 hF2 hX1 hB1
            rw [er] at hih
            exact hih
          · (try rw [nI_eq (by omega) (by omega)] at h79)
            have er : (if w < i + 1 then odR S (sR S r) 0 w v else 0) = odR S (sR S r) 0 i v := by (rw [if_pos (by omega), show w = i by omega])
            refine z_aload_n 83 dX10_was_82 rfl rfl ?_
            refine gX10_56 86 rfl dX10_was_83 rfl ?_
            refine z_iload_n 87 dX10_was_86 rfl rfl ?_
            refine z_laldn 88 dX10_was_87 rfl (by first | assumption | rfl) (by omega) ?_
            rw [hOv]
            refine z_goto 93 dX10_was_88 rfl ?_
            refine zs_lstore_7_10 95 rfl dX10_was_93 rfl rfl ?_
            refine zs_iinc_9_10_1 98 rfl dX10_was_95 rfl rfl ?_
            rw [nI_add]
            refine z_goto 49 dX10_was_98 rfl ?_
            have hih := ih (i + 1) (by omega) (by omega) τ1 hF2 hX1 hB1
            rw [er] at hih
            exact hih
    refine z_iload_n 1 dX10_was_0 rfl rfl ?_
    refine z_cSI1 4 (tX10_isRow) kX10_isRow dX10_was_1 rfl lX10_95 (Nat.le_of_ble_eq_true rfl) ?_
    rintro _ _ ⟨e1, e2⟩
    replace e1 := e1.symm
    replace e2 := e2.symm
    subst e1
    subst e2
    refine z_ifb_eq 23 7 dX10_was_4 (by decide) rfl (fun h4 => ?_) (fun h4 => ?_)
    · exact absurd b1 h4
    · refine z_aload_n 8 dX10_was_7 rfl rfl ?_
      refine z_iload_n 9 dX10_was_8 rfl rfl ?_
      refine z_cVI1 12 (tX10_isWord (by assumption) (by assumption)) kX10_isWord dX10_was_9 rfl lX10_151 (by first | assumption | rfl) (Nat.le_of_ble_eq_true rfl) ?_
      rintro _ _ ⟨e1, e2⟩
      replace e1 := e1.symm
      replace e2 := e2.symm
      subst e1
      subst e2
      refine z_ifb_eq 23 15 dX10_was_12 (by decide) rfl (fun h12 => ?_) (fun h12 => ?_)
      · exact absurd b2 h12
      · refine z_aload_n 16 dX10_was_15 rfl rfl ?_
        refine z_iload_n 17 dX10_was_16 rfl rfl ?_
        refine z_cVI1 20 (tX10_isWord (by assumption) (by assumption)) kX10_isWord dX10_was_17 rfl lX10_151 (by first | assumption | rfl) (Nat.le_of_ble_eq_true rfl) ?_
        rintro _ _ ⟨e1, e2⟩
        replace e1 := e1.symm
        replace e2 := e2.symm
        subst e1
        subst e2
        refine z_ifb_ne 25 23 dX10_was_20 (by decide) rfl (fun h20 => ?_) (fun h20 => ?_)
        · refine z_aload_n 26 dX10_was_25 rfl rfl ?_
          refine z_iload_n 27 dX10_was_26 rfl rfl ?_
          refine z_cVI1 30 (tX10_askedTable hW hX hr) kX10_askedTable dX10_was_27 rfl lX10_238 (by first | assumption | rfl) (Nat.le_of_ble_eq_true rfl) ?_
          rintro x1 τ1 hx
          obtain ⟨_, e1, hF1, hX1, hB1⟩ := hx.resolve_right (fun z => z.1 hD)
          subst e1
          rw [hsz] at hB1
          refine zs_istore_4_10 32 rfl dX10_was_30 rfl rfl ?_
          refine z_iload 34 dX10_was_32 rfl rfl ?_
          refine z_if_ge 40 37 dX10_was_34 (by decide) rfl (fun h34 => ?_) (fun h34 => ?_)
          · refine z_lconst 41 (v := 0) dX10_was_40 rfl rfl ?_
            refine zs_lstore_5_10 43 rfl dX10_was_41 rfl rfl ?_
            refine z_lconst 44 (v := 0) dX10_was_43 rfl rfl ?_
            refine zs_lstore_7_10 46 rfl dX10_was_44 rfl rfl ?_
            refine z_iconst 47 (v := nI 0) dX10_was_46 rfl rfl ?_
            refine zs_istore_9_10 49 rfl dX10_was_47 rfl rfl ?_
            exact loop 0 (Nat.zero_le _) τ1 (hF1.mono fT_mS) hX1 hB1
          · exact absurd (nI_pos' (by decide)) h34
        · exact absurd b3 h20
  · rw [if_pos hD] at e0
    refine z_iload_n 1 dX10_was_0 rfl rfl ?_
    refine z_cSI1 4 (tX10_isRow) kX10_isRow dX10_was_1 rfl lX10_95 (Nat.le_of_ble_eq_true rfl) ?_
    rintro _ _ ⟨e1, e2⟩
    replace e1 := e1.symm
    replace e2 := e2.symm
    subst e1
    subst e2
    refine z_ifb_eq 23 7 dX10_was_4 (by decide) rfl (fun h4 => ?_) (fun h4 => ?_)
    · exact absurd b1 h4
    · refine z_aload_n 8 dX10_was_7 rfl rfl ?_
      refine z_iload_n 9 dX10_was_8 rfl rfl ?_
      refine z_cVI1 12 (tX10_isWord (by assumption) (by assumption)) kX10_isWord dX10_was_9 rfl lX10_151 (by first | assumption | rfl) (Nat.le_of_ble_eq_true rfl) ?_
      rintro _ _ ⟨e1, e2⟩
      replace e1 := e1.symm
      replace e2 := e2.symm
      subst e1
      subst e2
      refine z_ifb_eq 23 15 dX10_was_12 (by decide) rfl (fun h12 => ?_) (fun h12 => ?_)
      · exact absurd b2 h12
      · refine z_aload_n 16 dX10_was_15 rfl rfl ?_
        refine z_iload_n 17 dX10_was_16 rfl rfl ?_
        refine z_cVI1 20 (tX10_isWord (by assumption) (by assumption)) kX10_isWord dX10_was_17 rfl lX10_151 (by first | assumption | rfl) (Nat.le_of_ble_eq_true rfl) ?_
        rintro _ _ ⟨e1, e2⟩
        replace e1 := e1.symm
        replace e2 := e2.symm
        subst e1
        subst e2
        refine z_ifb_ne 25 23 dX10_was_20 (by decide) rfl (fun h20 => ?_) (fun h20 => ?_)
        · refine z_aload_n 26 dX10_was_25 rfl rfl ?_
          refine z_iload_n 27 dX10_was_26 rfl rfl ?_
          refine z_cVI1 30 (tX10_askedTable hW hX hr) kX10_askedTable dX10_was_27 rfl lX10_238 (by first | assumption | rfl) (Nat.le_of_ble_eq_true rfl) ?_
          rintro x1 τ1 hx
          obtain ⟨_, e1, e2⟩ := hx.resolve_left (fun z => hD z.1)
          subst e1
          subst e2
          refine zs_istore_4_10 32 rfl dX10_was_30 rfl rfl ?_
          refine z_iload 34 dX10_was_32 rfl rfl ?_
          refine z_if_ge 40 37 dX10_was_34 (by decide) rfl (fun h34 => ?_) (fun h34 => ?_)
          · exact absurd h34 (by decide)
          · refine z_iload 39 dX10_was_37 rfl rfl ?_
            refine z_ri dX10_was_39 rfl ?_
            exact qmf hW e0 hpl hX Fr.rf
        · exact absurd b3 h20
