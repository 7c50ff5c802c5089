/-! ===== the model: a SHORE is told ===== -/
section P15
variable {G : xG} {d : Nat} {b : Nat} {S S' S1 T T1 U W Z : Nat → Nat → Int32} {h0 h : xH} {t : Nat}
/-- the first half is the second -/
def thF (f : Nat → Int32) (n i : Nat) : Nat → Int32 := fun j => if j < i then f (n + j) else f j
theorem thF_put {f : Nat → Int32} {n i : Nat} : upd (thF f n i) i (thF f n i (n + i)) = thF f n (i + 1) := by
  funext j
  unfold thF
  by_cases e : j = i
  · subst e; rw [updS, if_neg (by omega), if_pos (by omega)]
  · rw [updN e]
    by_cases q : j < i
    · rw [if_pos q, if_pos (by omega)]
    · rw [if_neg q, if_neg (by omega)]
theorem X12_takeHalf {k n : Nat} (hk : tbM[k]? = some (.inl (0, 2 * n))) (hn : n ≤ 700) (hb : gB G ≤ b) : VM G mX12_takeHalf d 0 0 [.ref (b + k)] (xE none (wH G b tbM (upR T k (thF (T k) n n)) h0)) (wH G b tbM T h0) := by
  refine VM_start (ls := [some (.ref (b + k)), none]) rfl ?_
  -- %m X12_takeHalf
  refine V_iconst (pc := 0) (v := 0) dX12_takeHalf_0 (by decide) ?_
  refine V_istore_n (pc := 1) (i := 1) dX12_takeHalf_1 rfl (by decide) rfl ?_
  have hdv : nI (2 * n) / 2 = nI n := (pk_div (a := 2 * n) (d := 2) (by omega) (by decide) (by decide)).trans (congrArg nI (by omega))
  have loop : ∀ (m i : Nat), m + i = n → V G mX12_takeHalf d 0 0 (xE none (wH G b tbM (upR T k (thF (T k) n n)) h0)) 2 [some (.ref (b + k)), some (.int (nI i))] [] (wH G b tbM (upR T k (thF (T k) n i)) h0) := by
    intro m
    induction m with
    | zero =>
      intro i hm
      refine V_iload_n (pc := 2) (i := 1) dX12_takeHalf_2 rfl rfl ?_
      refine V_aload_n (pc := 3) (i := 0) dX12_takeHalf_3 rfl rfl ?_
      refine VW_alen (pc := 4) dX12_takeHalf_4 (by first | assumption | rfl) (by decide) rfl ?_
      refine V_iconst (pc := 5) (v := 2) dX12_takeHalf_5 (by decide) ?_
      refine V_idiv (pc := 6) dX12_takeHalf_6 (by decide) ?_
      rw [show Int32.ofNat (2 * n) / 2 = nI n from hdv]
      refine V_icmp_ge (pc := 7) 27 dX12_takeHalf_7 rfl (fun c7 => ?_) (fun c7 => ?_)
      · rw [show i = n by omega]
        exact VE_vret (pc := 27) dX12_takeHalf_27 rfl rfl
      · exact absurd (by rw [show i = n by omega]; exact nI_le (by omega) (by omega)) c7
    | succ m ih =>
      intro i hm
      refine V_iload_n (pc := 2) (i := 1) dX12_takeHalf_2 rfl rfl ?_
      refine V_aload_n (pc := 3) (i := 0) dX12_takeHalf_3 rfl rfl ?_
      refine VW_alen (pc := 4) dX12_takeHalf_4 (by first | assumption | rfl) (by decide) rfl ?_
      refine V_iconst (pc := 5) (v := 2) dX12_takeHalf_5 (by decide) ?_
      refine V_idiv (pc := 6) dX12_takeHalf_6 (by decide) ?_
      rw [show Int32.ofNat (2 * n) / 2 = nI n from hdv]
      refine V_icmp_ge (pc := 7) 27 dX12_takeHalf_7 rfl (fun c7 => ?_) (fun c7 => ?_)
      · exact absurd c7 (nI_ge (by omega) (by omega))
      · refine V_aload_n (pc := 10) (i := 0) dX12_takeHalf_10 rfl rfl ?_
        refine V_iload_n (pc := 11) (i := 1) dX12_takeHalf_11 rfl rfl ?_
        refine V_aload_n (pc := 12) (i := 0) dX12_takeHalf_12 rfl rfl ?_
        refine V_aload_n (pc := 13) (i := 0) dX12_takeHalf_13 rfl rfl ?_
        refine VW_alen (pc := 14) dX12_takeHalf_14 (by first | assumption | rfl) (by decide) rfl ?_
        refine V_iconst (pc := 15) (v := 2) dX12_takeHalf_15 (by decide) ?_
        refine V_idiv (pc := 16) dX12_takeHalf_16 (by decide) ?_
        rw [show Int32.ofNat (2 * n) / 2 = nI n from hdv]
        refine V_iload_n (pc := 17) (i := 1) dX12_takeHalf_17 rfl rfl ?_
        refine V_iadd (pc := 18) dX12_takeHalf_18 ?_
        refine VW_ialdN (pc := 19) dX12_takeHalf_19 (by first | assumption | rfl) (j := n + i) (nI_add n i) (by omega) (by first | decide | omega) ?_
        rw [upR_same]
        refine VW_iastN (pc := 20) dX12_takeHalf_20 (by first | assumption | rfl) (by assumption) (j := i) rfl (by omega) (by first | decide | omega) ?_
        rw [up2_upR, thF_put]
        refine V_iinc (pc := 21) dX12_takeHalf_21 (by decide) rfl rfl (iincN (n := 1) (by decide)) ?_
        refine V_goto (pc := 24) 2 dX12_takeHalf_24 rfl ?_
        exact ih (i + 1) (by omega)
  have k0 := loop n 0 (by omega)
  rw [show thF (T k) n 0 = T k from funext fun j => by unfold thF; rw [if_neg (by omega)], upR_self] at k0
  exact k0
/-- rows from 3 on are taken, up to n -/
def thU (T : Nat → Nat → Int32) (n : Nat) : Nat → Nat → Int32 := fun k => if 3 ≤ k ∧ k < n then thF (T k) (thr k) (thr k) else T k
theorem thU_put {n : Nat} (h : 3 ≤ n) : upR (thU T n) n (thF (thU T n n) (thr n) (thr n)) = thU T (n + 1) := by
  have e : thU T n n = T n := by unfold thU; rw [if_neg (by omega)]
  rw [e]
  funext k
  by_cases q : k = n
  · subst q; rw [upR_same]; unfold thU; rw [if_pos (by omega)]
  · rw [upR_row q]
    unfold thU
    by_cases q2 : 3 ≤ k ∧ k < n
    · rw [if_pos q2, if_pos (by omega)]
    · rw [if_neg q2, if_neg (by omega)]
theorem X12_th {n h : Nat} (hn : 3 ≤ n) (hk : tbM[n]? = some (.inl (0, 2 * h))) (ht : thr n = h) (hh : h ≤ 700) (hb : gB G ≤ b) : VM G mX12_takeHalf d 0 0 [.ref (b + n)] (xE none (wH G b tbM (thU T (n + 1)) h0)) (wH G b tbM (thU T n) h0) := by
  rw [← thU_put hn, ht]
  exact X12_takeHalf hk hh hb
/-- PEOPLE as they are told: pp of them -/
def opL (pp : Nat) : Nat → Nat → (Nat → Nat → Int32) → Nat → Nat → Int32
  | 0, _, T => T
  | m + 1, p, T => opL pp m (p + 1) (up2 (up2 (up2 (up2 T 16 p (if p < pp then T 5 p else 0)) 17 p (if p < pp then T 6 p else 0)) 18 p (if p < pp then T 8 p else 0)) 19 p 0)
def tkO1 (W : Nat → Nat → Int32) : Nat → Nat → Int32 := up2 (up2 (up2 (up2 W 0 32 0) 0 33 0) 0 34 0) 0 35 (W 3 2)
def tkO (T : Nat → Nat → Int32) (pp : Nat) : Nat → Nat → Int32 := up2 (up2 (up2 (opL pp 8 0 (tkO1 (thU T 14))) 0 36 0) 0 37 0) 0 48 0
theorem X12_takeOver {pp : Nat} (hp : T 3 4 = nI pp) (h8 : pp ≤ 8) (hb : gB G ≤ b) (hd : 1 ≤ d) : VM G mX12_takeOver d 0 0 [.ref (b + 0)] (xE none (wH G b tbM (tkO T pp) h0)) (wH G b tbM T h0) := by
  refine VM_start (ls := [some (.ref (b + 0)), none, none]) rfl ?_
  rw [show wH G b tbM T h0 = wH G b tbM (thU T 3) h0 from by congr 1; funext k; unfold thU; rw [if_neg (by omega)]]
  have hp0 : thU T 14 3 0 = nI pp := by unfold thU; rw [if_pos (by decide)]; unfold thF; rw [if_pos (by decide)]; exact hp
  unfold tkO
  -- %m X12_takeOver
  refine V_aload_n (pc := 0) (i := 0) dX12_takeOver_0 rfl rfl ?_
  refine VW_getR (pc := 1) dX12_takeOver_1 fX12_36 (by first | assumption | rfl) rfl ?_
  refine V_S1v (pc := 4) dX12_takeOver_4 cX12_296 (X12_th (d := 0) (n := 3) (h := 4) (by decide) rfl rfl (by decide) hb) (Nat.le_of_ble_eq_true rfl) (by omega) (Nat.le_of_ble_eq_true rfl) ?_
  refine V_aload_n (pc := 7) (i := 0) dX12_takeOver_7 rfl rfl ?_
  refine VW_getR (pc := 8) dX12_takeOver_8 fX12_40 (by first | assumption | rfl) rfl ?_
  refine V_S1v (pc := 11) dX12_takeOver_11 cX12_296 (X12_th (d := 0) (n := 4) (h := 10) (by decide) rfl rfl (by decide) hb) (Nat.le_of_ble_eq_true rfl) (by omega) (Nat.le_of_ble_eq_true rfl) ?_
  refine V_aload_n (pc := 14) (i := 0) dX12_takeOver_14 rfl rfl ?_
  refine VW_getR (pc := 15) dX12_takeOver_15 fX12_43 (by first | assumption | rfl) rfl ?_
  refine V_S1v (pc := 18) dX12_takeOver_18 cX12_296 (X12_th (d := 0) (n := 5) (h := 8) (by decide) rfl rfl (by decide) hb) (Nat.le_of_ble_eq_true rfl) (by omega) (Nat.le_of_ble_eq_true rfl) ?_
  refine V_aload_n (pc := 21) (i := 0) dX12_takeOver_21 rfl rfl ?_
  refine VW_getR (pc := 22) dX12_takeOver_22 fX12_46 (by first | assumption | rfl) rfl ?_
  refine V_S1v (pc := 25) dX12_takeOver_25 cX12_296 (X12_th (d := 0) (n := 6) (h := 8) (by decide) rfl rfl (by decide) hb) (Nat.le_of_ble_eq_true rfl) (by omega) (Nat.le_of_ble_eq_true rfl) ?_
  refine V_aload_n (pc := 28) (i := 0) dX12_takeOver_28 rfl rfl ?_
  refine VW_getR (pc := 29) dX12_takeOver_29 fX12_49 (by first | assumption | rfl) rfl ?_
  refine V_S1v (pc := 32) dX12_takeOver_32 cX12_296 (X12_th (d := 0) (n := 7) (h := 8) (by decide) rfl rfl (by decide) hb) (Nat.le_of_ble_eq_true rfl) (by omega) (Nat.le_of_ble_eq_true rfl) ?_
  refine V_aload_n (pc := 35) (i := 0) dX12_takeOver_35 rfl rfl ?_
  refine VW_getR (pc := 36) dX12_takeOver_36 fX12_52 (by first | assumption | rfl) rfl ?_
  refine V_S1v (pc := 39) dX12_takeOver_39 cX12_296 (X12_th (d := 0) (n := 8) (h := 8) (by decide) rfl rfl (by decide) hb) (Nat.le_of_ble_eq_true rfl) (by omega) (Nat.le_of_ble_eq_true rfl) ?_
  refine V_aload_n (pc := 42) (i := 0) dX12_takeOver_42 rfl rfl ?_
  refine VW_getR (pc := 43) dX12_takeOver_43 fX12_55 (by first | assumption | rfl) rfl ?_
  refine V_S1v (pc := 46) dX12_takeOver_46 cX12_296 (X12_th (d := 0) (n := 9) (h := 12) (by decide) rfl rfl (by decide) hb) (Nat.le_of_ble_eq_true rfl) (by omega) (Nat.le_of_ble_eq_true rfl) ?_
  refine V_aload_n (pc := 49) (i := 0) dX12_takeOver_49 rfl rfl ?_
  refine VW_getR (pc := 50) dX12_takeOver_50 fX12_58 (by first | assumption | rfl) rfl ?_
  refine V_S1v (pc := 53) dX12_takeOver_53 cX12_296 (X12_th (d := 0) (n := 10) (h := 12) (by decide) rfl rfl (by decide) hb) (Nat.le_of_ble_eq_true rfl) (by omega) (Nat.le_of_ble_eq_true rfl) ?_
  refine V_aload_n (pc := 56) (i := 0) dX12_takeOver_56 rfl rfl ?_
  refine VW_getR (pc := 57) dX12_takeOver_57 fX12_61 (by first | assumption | rfl) rfl ?_
  refine V_S1v (pc := 60) dX12_takeOver_60 cX12_296 (X12_th (d := 0) (n := 11) (h := 12) (by decide) rfl rfl (by decide) hb) (Nat.le_of_ble_eq_true rfl) (by omega) (Nat.le_of_ble_eq_true rfl) ?_
  refine V_aload_n (pc := 63) (i := 0) dX12_takeOver_63 rfl rfl ?_
  refine VW_getR (pc := 64) dX12_takeOver_64 fX12_64 (by first | assumption | rfl) rfl ?_
  refine V_S1v (pc := 67) dX12_takeOver_67 cX12_296 (X12_th (d := 0) (n := 12) (h := 12) (by decide) rfl rfl (by decide) hb) (Nat.le_of_ble_eq_true rfl) (by omega) (Nat.le_of_ble_eq_true rfl) ?_
  refine V_aload_n (pc := 70) (i := 0) dX12_takeOver_70 rfl rfl ?_
  refine VW_getR (pc := 71) dX12_takeOver_71 fX12_67 (by first | assumption | rfl) rfl ?_
  refine V_S1v (pc := 74) dX12_takeOver_74 cX12_296 (X12_th (d := 0) (n := 13) (h := 700) (by decide) rfl rfl (by decide) hb) (Nat.le_of_ble_eq_true rfl) (by omega) (Nat.le_of_ble_eq_true rfl) ?_
  show V G mX12_takeOver d 0 0 _ 77 _ _ (wH G b tbM (thU T 14) h0)
  generalize thU T 14 = W at hp0 ⊢
  refine V_aload_n (pc := 77) (i := 0) dX12_takeOver_77 rfl rfl ?_
  refine V_iconst (pc := 78) (v := 0) dX12_takeOver_78 (by decide) ?_
  refine VW_putI (pc := 79) dX12_takeOver_79 fX12_300 ftX12 (fpI rfl rfl (tyX12_ok 32 (by decide))) (by first | assumption | rfl) rfl (by assumption) ?_
  refine V_aload_n (pc := 82) (i := 0) dX12_takeOver_82 rfl rfl ?_
  refine V_iconst (pc := 83) (v := 0) dX12_takeOver_83 (by decide) ?_
  refine VW_putI (pc := 84) dX12_takeOver_84 fX12_302 ftX12 (fpI rfl rfl (tyX12_ok 33 (by decide))) (by first | assumption | rfl) rfl (by assumption) ?_
  refine V_aload_n (pc := 87) (i := 0) dX12_takeOver_87 rfl rfl ?_
  refine V_iconst (pc := 88) (v := 0) dX12_takeOver_88 (by decide) ?_
  refine VW_putI (pc := 89) dX12_takeOver_89 fX12_304 ftX12 (fpI rfl rfl (tyX12_ok 34 (by decide))) (by first | assumption | rfl) rfl (by assumption) ?_
  refine V_aload_n (pc := 92) (i := 0) dX12_takeOver_92 rfl rfl ?_
  refine V_aload_n (pc := 93) (i := 0) dX12_takeOver_93 rfl rfl ?_
  refine VW_getR (pc := 94) dX12_takeOver_94 fX12_36 (by first | assumption | rfl) rfl ?_
  refine V_iconst (pc := 97) (v := 2) dX12_takeOver_97 (by decide) ?_
  refine VW_ialdN (pc := 98) dX12_takeOver_98 (by first | assumption | rfl) (j := 2) rfl (by decide) (by first | decide | omega) ?_
  rw [up2_row (by decide), up2_row (by decide), up2_row (by decide)]
  refine VW_putI (pc := 99) dX12_takeOver_99 fX12_136 ftX12 (fpI rfl rfl (tyX12_ok 35 (by decide))) (by first | assumption | rfl) rfl (by assumption) ?_
  show V G mX12_takeOver d 0 0 _ 102 _ _ (wH G b tbM (tkO1 W) h0)
  have hp1 : tkO1 W 3 0 = nI pp := by unfold tkO1; simp (disch := omega) only [up2_row]; exact hp0
  generalize tkO1 W = X at hp1 ⊢
  refine V_iconst (pc := 102) (v := 0) dX12_takeOver_102 (by decide) ?_
  refine V_istore_n (pc := 103) (i := 1) dX12_takeOver_103 rfl (by decide) rfl ?_
  have loop : ∀ (m p : Nat) (X : Nat → Nat → Int32), m + p = 8 → X 3 0 = nI pp → V G mX12_takeOver d 0 0 (xE none (wH G b tbM (up2 (up2 (up2 (opL pp m p X) 0 36 0) 0 37 0) 0 48 0) h0)) 104 [some (.ref (b + 0)), some (.int (nI p)), none] [] (wH G b tbM X h0) := by
    intro m
    induction m with
    | zero =>
      intro p X hm hX
      refine V_iload_n (pc := 104) (i := 1) dX12_takeOver_104 rfl rfl ?_
      refine V_bipush (pc := 105) (v := 8) dX12_takeOver_105 (by decide) ?_
      refine V_icmp_ge (pc := 107) 199 dX12_takeOver_107 rfl (fun c107 => ?_) (fun c107 => ?_)
      · refine V_aload_n (pc := 199) (i := 0) dX12_takeOver_199 rfl rfl ?_
        refine V_iconst (pc := 200) (v := 0) dX12_takeOver_200 (by decide) ?_
        refine VW_putI (pc := 201) dX12_takeOver_201 fX12_307 ftX12 (fpI rfl rfl (tyX12_ok 36 (by decide))) (by first | assumption | rfl) rfl (by assumption) ?_
        refine V_aload_n (pc := 204) (i := 0) dX12_takeOver_204 rfl rfl ?_
        refine V_iconst (pc := 205) (v := 0) dX12_takeOver_205 (by decide) ?_
        refine VW_putI (pc := 206) dX12_takeOver_206 fX12_310 ftX12 (fpI rfl rfl (tyX12_ok 37 (by decide))) (by first | assumption | rfl) rfl (by assumption) ?_
        refine V_aload_n (pc := 209) (i := 0) dX12_takeOver_209 rfl rfl ?_
        refine V_iconst (pc := 210) (v := 0) dX12_takeOver_210 (by decide) ?_
        refine VW_putI (pc := 211) dX12_takeOver_211 fX12_313 ftX12 (fpZ rfl rfl (tyX12_ok 48 (by decide)) (by first | exact Or.inl rfl | exact Or.inr rfl)) (by first | assumption | rfl) rfl (by assumption) ?_
        exact VE_vret (pc := 214) dX12_takeOver_214 rfl rfl
      · exact absurd (by rw [show p = 8 by omega]; decide) c107
    | succ m ih =>
      intro p X hm hX
      rw [opL]
      have ihh := fun Y hY => ih (p + 1) Y (by omega) hY
      have stp : ∀ c : Bool, c = decide (p < pp) → V G mX12_takeOver d 0 0 (xE none (wH G b tbM (up2 (up2 (up2 (opL pp m (p + 1) (up2 (up2 (up2 (up2 X 16 p (if p < pp then X 5 p else 0)) 17 p (if p < pp then X 6 p else 0)) 18 p (if p < pp then X 8 p else 0)) 19 p 0)) 0 36 0) 0 37 0) 0 48 0) h0)) 126 [some (.ref (b + 0)), some (.int (nI p)), some (.int (b2i c))] [] (wH G b tbM X h0) := by
        intro c hc
        cases c with
        | true =>
          have q : p < pp := of_decide_eq_true hc.symm
          simp only [if_pos q]
          refine V_aload_n (pc := 126) (i := 0) dX12_takeOver_126 rfl rfl ?_
          refine VW_getR (pc := 127) dX12_takeOver_127 fX12_80 (by first | assumption | rfl) rfl ?_
          refine V_iload_n (pc := 130) (i := 1) dX12_takeOver_130 rfl rfl ?_
          refine V_iload_n (pc := 131) (i := 2) dX12_takeOver_131 rfl rfl ?_
          refine V_if_eq (pc := 132) 144 dX12_takeOver_132 rfl (fun c => absurd c (by decide)) (fun _ => ?_)
          refine V_aload_n (pc := 135) (i := 0) dX12_takeOver_135 rfl rfl ?_
          refine VW_getR (pc := 136) dX12_takeOver_136 fX12_43 (by first | assumption | rfl) rfl ?_
          refine V_iload_n (pc := 139) (i := 1) dX12_takeOver_139 rfl rfl ?_
          refine VW_ialdN (pc := 140) dX12_takeOver_140 (by first | assumption | rfl) rfl (by omega) (by first | decide | omega) ?_
          refine V_goto (pc := 141) 145 dX12_takeOver_141 rfl ?_
          refine VW_iastN (pc := 145) dX12_takeOver_145 (by first | assumption | rfl) (by assumption) rfl (by omega) (by first | decide | omega) ?_
          refine V_aload_n (pc := 146) (i := 0) dX12_takeOver_146 rfl rfl ?_
          refine VW_getR (pc := 147) dX12_takeOver_147 fX12_83 (by first | assumption | rfl) rfl ?_
          refine V_iload_n (pc := 150) (i := 1) dX12_takeOver_150 rfl rfl ?_
          refine V_iload_n (pc := 151) (i := 2) dX12_takeOver_151 rfl rfl ?_
          refine V_if_eq (pc := 152) 164 dX12_takeOver_152 rfl (fun c => absurd c (by decide)) (fun _ => ?_)
          refine V_aload_n (pc := 155) (i := 0) dX12_takeOver_155 rfl rfl ?_
          refine VW_getR (pc := 156) dX12_takeOver_156 fX12_46 (by first | assumption | rfl) rfl ?_
          refine V_iload_n (pc := 159) (i := 1) dX12_takeOver_159 rfl rfl ?_
          refine VW_ialdN (pc := 160) dX12_takeOver_160 (by first | assumption | rfl) rfl (by omega) (by first | decide | omega) ?_
          rw [up2_row (by decide)]
          refine V_goto (pc := 161) 165 dX12_takeOver_161 rfl ?_
          refine VW_iastN (pc := 165) dX12_takeOver_165 (by first | assumption | rfl) (by assumption) rfl (by omega) (by first | decide | omega) ?_
          refine V_aload_n (pc := 166) (i := 0) dX12_takeOver_166 rfl rfl ?_
          refine VW_getR (pc := 167) dX12_takeOver_167 fX12_86 (by first | assumption | rfl) rfl ?_
          refine V_iload_n (pc := 170) (i := 1) dX12_takeOver_170 rfl rfl ?_
          refine V_iload_n (pc := 171) (i := 2) dX12_takeOver_171 rfl rfl ?_
          refine V_if_eq (pc := 172) 184 dX12_takeOver_172 rfl (fun c => absurd c (by decide)) (fun _ => ?_)
          refine V_aload_n (pc := 175) (i := 0) dX12_takeOver_175 rfl rfl ?_
          refine VW_getR (pc := 176) dX12_takeOver_176 fX12_52 (by first | assumption | rfl) rfl ?_
          refine V_iload_n (pc := 179) (i := 1) dX12_takeOver_179 rfl rfl ?_
          refine VW_ialdN (pc := 180) dX12_takeOver_180 (by first | assumption | rfl) rfl (by omega) (by first | decide | omega) ?_
          rw [up2_row (by decide), up2_row (by decide)]
          refine V_goto (pc := 181) 185 dX12_takeOver_181 rfl ?_
          refine VW_iastN (pc := 185) dX12_takeOver_185 (by first | assumption | rfl) (by assumption) rfl (by omega) (by first | decide | omega) ?_
          refine V_aload_n (pc := 186) (i := 0) dX12_takeOver_186 rfl rfl ?_
          refine VW_getR (pc := 187) dX12_takeOver_187 fX12_88 (by first | assumption | rfl) rfl ?_
          refine V_iload_n (pc := 190) (i := 1) dX12_takeOver_190 rfl rfl ?_
          refine V_iconst (pc := 191) (v := 0) dX12_takeOver_191 (by decide) ?_
          refine VW_iastN (pc := 192) dX12_takeOver_192 (by first | assumption | rfl) (by assumption) rfl (by omega) (by first | decide | omega) ?_
          refine V_iinc (pc := 193) dX12_takeOver_193 (by decide) rfl rfl (iincN (n := 1) (by decide)) ?_
          refine V_goto (pc := 196) 104 dX12_takeOver_196 rfl ?_
          exact V_forget 2 (ihh _ (by rw [up2_row (by decide), up2_row (by decide), up2_row (by decide), up2_row (by decide)]; exact hX))
        | false =>
          have q : ¬ p < pp := of_decide_eq_false hc.symm
          simp only [if_neg q]
          refine V_aload_n (pc := 126) (i := 0) dX12_takeOver_126 rfl rfl ?_
          refine VW_getR (pc := 127) dX12_takeOver_127 fX12_80 (by first | assumption | rfl) rfl ?_
          refine V_iload_n (pc := 130) (i := 1) dX12_takeOver_130 rfl rfl ?_
          refine V_iload_n (pc := 131) (i := 2) dX12_takeOver_131 rfl rfl ?_
          refine V_if_eq (pc := 132) 144 dX12_takeOver_132 rfl (fun _ => ?_) (fun c => absurd rfl c)
          refine V_iconst (pc := 144) (v := 0) dX12_takeOver_144 (by decide) ?_
          refine VW_iastN (pc := 145) dX12_takeOver_145 (by first | assumption | rfl) (by assumption) rfl (by omega) (by first | decide | omega) ?_
          refine V_aload_n (pc := 146) (i := 0) dX12_takeOver_146 rfl rfl ?_
          refine VW_getR (pc := 147) dX12_takeOver_147 fX12_83 (by first | assumption | rfl) rfl ?_
          refine V_iload_n (pc := 150) (i := 1) dX12_takeOver_150 rfl rfl ?_
          refine V_iload_n (pc := 151) (i := 2) dX12_takeOver_151 rfl rfl ?_
          refine V_if_eq (pc := 152) 164 dX12_takeOver_152 rfl (fun _ => ?_) (fun c => absurd rfl c)
          refine V_iconst (pc := 164) (v := 0) dX12_takeOver_164 (by decide) ?_
          refine VW_iastN (pc := 165) dX12_takeOver_165 (by first | assumption | rfl) (by assumption) rfl (by omega) (by first | decide | omega) ?_
          refine V_aload_n (pc := 166) (i := 0) dX12_takeOver_166 rfl rfl ?_
          refine VW_getR (pc := 167) dX12_takeOver_167 fX12_86 (by first | assumption | rfl) rfl ?_
          refine V_iload_n (pc := 170) (i := 1) dX12_takeOver_170 rfl rfl ?_
          refine V_iload_n (pc := 171) (i := 2) dX12_takeOver_171 rfl rfl ?_
          refine V_if_eq (pc := 172) 184 dX12_takeOver_172 rfl (fun _ => ?_) (fun c => absurd rfl c)
          refine V_iconst (pc := 184) (v := 0) dX12_takeOver_184 (by decide) ?_
          refine VW_iastN (pc := 185) dX12_takeOver_185 (by first | assumption | rfl) (by assumption) rfl (by omega) (by first | decide | omega) ?_
          refine V_aload_n (pc := 186) (i := 0) dX12_takeOver_186 rfl rfl ?_
          refine VW_getR (pc := 187) dX12_takeOver_187 fX12_88 (by first | assumption | rfl) rfl ?_
          refine V_iload_n (pc := 190) (i := 1) dX12_takeOver_190 rfl rfl ?_
          refine V_iconst (pc := 191) (v := 0) dX12_takeOver_191 (by decide) ?_
          refine VW_iastN (pc := 192) dX12_takeOver_192 (by first | assumption | rfl) (by assumption) rfl (by omega) (by first | decide | omega) ?_
          refine V_iinc (pc := 193) dX12_takeOver_193 (by decide) rfl rfl (iincN (n := 1) (by decide)) ?_
          refine V_goto (pc := 196) 104 dX12_takeOver_196 rfl ?_
          exact V_forget 2 (ihh _ (by rw [up2_row (by decide), up2_row (by decide), up2_row (by decide), up2_row (by decide)]; exact hX))
      refine V_iload_n (pc := 104) (i := 1) dX12_takeOver_104 rfl rfl ?_
      refine V_bipush (pc := 105) (v := 8) dX12_takeOver_105 (by decide) ?_
      refine V_icmp_ge (pc := 107) 199 dX12_takeOver_107 rfl (fun c107 => ?_) (fun c107 => ?_)
      · exact absurd c107 (nI_ge (b := 8) (by omega) (by decide))
      · refine V_iload_n (pc := 110) (i := 1) dX12_takeOver_110 rfl rfl ?_
        refine V_aload_n (pc := 111) (i := 0) dX12_takeOver_111 rfl rfl ?_
        refine VW_getR (pc := 112) dX12_takeOver_112 fX12_36 (by first | assumption | rfl) rfl ?_
        refine V_iconst (pc := 115) (v := 0) dX12_takeOver_115 (by decide) ?_
        refine VW_ialdN (pc := 116) dX12_takeOver_116 (by first | assumption | rfl) (j := 0) rfl (by decide) (by first | decide | omega) ?_
        rw [hX]
        refine V_icmp_ge (pc := 117) 124 dX12_takeOver_117 rfl (fun c117 => ?_) (fun c117 => ?_)
        · have q : ¬ p < pp := fun q => nI_ge q (by omega) c117
          refine V_iconst (pc := 124) (v := 0) dX12_takeOver_124 (by decide) ?_
          refine V_istore_n (pc := 125) (i := 2) dX12_takeOver_125 rfl (by decide) rfl ?_
          first
            | exact stp true (decide_eq_true q).symm
            | exact stp false (decide_eq_false q).symm
        · have q : p < pp := Nat.not_le.mp (fun q => c117 (nI_le q (by omega)))
          refine V_iconst (pc := 120) (v := 1) dX12_takeOver_120 (by decide) ?_
          refine V_goto (pc := 121) 125 dX12_takeOver_121 rfl ?_
          refine V_istore_n (pc := 125) (i := 2) dX12_takeOver_125 rfl (by decide) rfl ?_
          first
            | exact stp true (decide_eq_true q).symm
            | exact stp false (decide_eq_false q).symm
  exact loop 8 0 X rfl hp1
end P15
