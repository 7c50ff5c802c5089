/-! ===== Reader: EXPRS ===== -/
section Ex
variable {G : xG} {d : Nat} {b : Nat} {S T Z : Nat → Nat → Int32} {h0 h : xH}
/-- a PART; X reads an EXPR within -/
def partF (t : Nat) (X : (Nat → Nat → Int32) → Bool × (Nat → Nat → Int32)) (S : Nat → Nat → Int32) : Bool × (Nat → Nat → Int32) :=
  if S 2 6 = 2 then ppF (nmW S 0 9999).2 t (nmW S 0 9999).1
  else if S 2 6 = 1 then (if vlH S = -1 then (false, rfs S 3) else ppF S t (vlH S))
  else if (tkS S 40).1 then (if (X (tkS S 40).2).1 then tkS (X (tkS S 40).2).2 41 else (false, (X (tkS S 40).2).2)) else (false, (tkS S 40).2)
/-- operators of a level, with what R reads between them: m at most -/
def opsF (t lv : Nat) (R : (Nat → Nat → Int32) → Bool × (Nat → Nat → Int32)) : Nat → (Nat → Nat → Int32) → Bool × (Nat → Nat → Int32)
  | 0, S => (true, S)
  | m + 1, S => if opH S lv = -1 then (true, S) else if (R (adv S)).1 then opsF t lv R m (raS (R (adv S)).2 t (opH S lv)) else (false, (R (adv S)).2)
def notF (t : Nat) : Nat → (Nat → Nat → Int32) → Nat → Nat → Int32
  | 0, S => S
  | m + 1, S => notF t m (raS S t 10007)
/-- a row of a level: its NOTS n, what R reads, its operators -/
def rowR (t lv : Nat) (R : (Nat → Nat → Int32) → Bool × (Nat → Nat → Int32)) (k : Nat) (n : Int32 × (Nat → Nat → Int32)) : Bool × (Nat → Nat → Int32) :=
  if n.1 = -1 then (false, n.2) else if (R n.2).1 then (if (opsF t lv R k (R n.2).2).1 then (true, notF t n.1.toNatClampNeg (opsF t lv R k (R n.2).2).2) else (false, (opsF t lv R k (R n.2).2).2)) else (false, (R n.2).2)
/-- rows of the levels: j of them are left -/
def rowF (t : Nat) (P : (Nat → Nat → Int32) → Bool × (Nat → Nat → Int32)) : Nat → (Nat → Nat → Int32) → Bool × (Nat → Nat → Int32)
  | 0, S => P S
  | j + 1, S => if j = 2 then rowR t (4 - j) (rowF t P j) 1 (ntF 6 0 S) else rowR t (4 - j) (rowF t P j) 700 (0, S)
/-- an EXPR; f more may stand within -/
def exF (t : Nat) : Nat → (Nat → Nat → Int32) → Bool × (Nat → Nat → Int32)
  | 0, S => if stS S then (false, rfs S 2) else (false, rfs S 1)
  | f + 1, S => rowF t (partF t (exF t f)) 5 S
theorem XI_nmW {t : Nat} {lo hi : Int32} (x : XI Z S t) : XI Z (nmW S lo hi).2 t := by
  have := XI_or x
  exact XI_of x (TI_of x.1 (nmW_off (by decide))) nmW_1 (by rw [nmW_off (by omega)]) (fun k k1 _ _ _ => nmW_off k1)
theorem XI_ppF {t : Nat} {c : Int32} (x : XI Z S t) : XI Z (ppF S t c).2 t := by
  unfold ppF
  split
  · exact x
  · exact XI_adv (XI_raS x)
theorem XI_tkS {t : Nat} {c : Int32} (x : XI Z S t) : XI Z (tkS S c).2 t := by
  unfold tkS
  split
  · exact XI_adv x
  · exact XI_rfs x
theorem XI_ntF {t : Nat} : ∀ (m k : Nat) (S : Nat → Nat → Int32), XI Z S t → XI Z (ntF m k S).2 t := by
  intro m
  induction m with
  | zero =>
    intro k S x
    rw [ntF]
    split
    · exact XI_rfs x
    · exact x
  | succ m ih =>
    intro k S x
    rw [ntF]
    split
    · exact ih _ _ (XI_adv x)
    · exact x
theorem ntF_v : ∀ (m k : Nat) (S : Nat → Nat → Int32), (ntF m k S).1 = -1 ∨ ∃ j : Nat, j ≤ k + m ∧ (ntF m k S).1 = nI j := by
  intro m
  induction m with
  | zero =>
    intro k S
    rw [ntF]
    split
    · exact Or.inl rfl
    · exact Or.inr ⟨k, by omega, rfl⟩
  | succ m ih =>
    intro k S
    rw [ntF]
    split
    · rcases ih (k + 1) (adv S) with h | ⟨j, h1, h2⟩
      · exact Or.inl h
      · exact Or.inr ⟨j, by omega, h2⟩
    · exact Or.inr ⟨k, by omega, rfl⟩
theorem XI_opsF {t lv : Nat} {R : (Nat → Nat → Int32) → Bool × (Nat → Nat → Int32)} (hR : ∀ S, XI Z S t → XI Z (R S).2 t) : ∀ (m : Nat) (S : Nat → Nat → Int32), XI Z S t → XI Z (opsF t lv R m S).2 t := by
  intro m
  induction m with
  | zero => intro S x; exact x
  | succ m ih =>
    intro S x
    rw [opsF]
    split
    · exact x
    · split
      · exact ih _ (XI_raS (hR _ (XI_adv x)))
      · exact hR _ (XI_adv x)
theorem XI_notF {t : Nat} : ∀ (m : Nat) (S : Nat → Nat → Int32), XI Z S t → XI Z (notF t m S) t := by
  intro m
  induction m with
  | zero => intro S x; exact x
  | succ m ih => intro S x; rw [notF]; exact ih _ (XI_raS x)
theorem XI_rowR {t lv k : Nat} {R : (Nat → Nat → Int32) → Bool × (Nat → Nat → Int32)} {n : Int32 × (Nat → Nat → Int32)} (hR : ∀ S, XI Z S t → XI Z (R S).2 t) (x : XI Z n.2 t) : XI Z (rowR t lv R k n).2 t := by
  unfold rowR
  split
  · exact x
  · split
    · split
      · exact XI_notF _ _ (XI_opsF hR _ _ (hR _ x))
      · exact XI_opsF hR _ _ (hR _ x)
    · exact hR _ x
theorem XI_rowF {t : Nat} {P : (Nat → Nat → Int32) → Bool × (Nat → Nat → Int32)} (hP : ∀ S, XI Z S t → XI Z (P S).2 t) : ∀ (j : Nat) (S : Nat → Nat → Int32), XI Z S t → XI Z (rowF t P j S).2 t := by
  intro j
  induction j with
  | zero => intro S x; exact hP S x
  | succ j ih =>
    intro S x
    rw [rowF]
    split
    · exact XI_rowR ih (XI_ntF _ _ _ x)
    · exact XI_rowR ih x
theorem XI_partF {t : Nat} {X : (Nat → Nat → Int32) → Bool × (Nat → Nat → Int32)} (hX : ∀ S, XI Z S t → XI Z (X S).2 t) (S : Nat → Nat → Int32) (x : XI Z S t) : XI Z (partF t X S).2 t := by
  unfold partF
  split
  · exact XI_ppF (XI_nmW x)
  · split
    · split
      · exact XI_rfs x
      · exact XI_ppF x
    · split
      · split
        · exact XI_tkS (hX _ (XI_tkS x))
        · exact hX _ (XI_tkS x)
      · exact XI_tkS x
theorem XI_exF {t : Nat} : ∀ (f : Nat) (S : Nat → Nat → Int32), XI Z S t → XI Z (exF t f S).2 t := by
  intro f
  induction f with
  | zero =>
    intro S x
    rw [exF]
    split
    · exact XI_rfs x
    · exact XI_rfs x
  | succ f ih => intro S x; rw [exF]; exact XI_rowF (XI_partF ih) 5 S x
theorem X3_readPart {t w D : Nat} {X : (Nat → Nat → Int32) → Bool × (Nat → Nat → Int32)} (hX : ∀ S, XI Z S t → XI Z (X S).2 t) (hD : 7 ≤ D) (hw : w < 100) (hx : ∀ (S : Nat → Nat → Int32), XI Z S t → VM G mX3_readExpr D 0 0 [.ref (b + 1), .int (nI (w + 1))] (xE (some (.int (b2i (X S).1))) (wH G b tbC (X S).2 h0)) (wH G b tbC S h0)) (x : XI Z S t) (hb : gB G ≤ b) (hd : D + 1 ≤ d) : VM G mX3_readPart d 0 0 [.ref (b + 1), .int (nI w)] (xE (some (.int (b2i (partF t X S).1))) (wH G b tbC (partF t X S).2 h0)) (wH G b tbC S h0) := by
  refine VM_start (ls := [some (.ref (b + 1)), some (.int (nI w)), none]) rfl ?_
  unfold partF
  -- %m X3_readPart
  refine V_aload_n (pc := 0) (i := 0) dX3_readPart_0 rfl rfl ?_
  refine VW_getR (pc := 1) dX3_readPart_1 fX3_12 (by first | assumption | rfl) rfl ?_
  refine VW_getI (pc := 4) dX3_readPart_4 fX3_39 (by first | assumption | rfl) rfl ?_
  refine V_iconst (pc := 7) (v := 2) dX3_readPart_7 (by decide) ?_
  refine V_icmp_ne (pc := 8) 24 dX3_readPart_8 rfl (fun c8 => ?_) (fun c8 => ?_)
  · rw [if_neg c8]
    refine V_aload_n (pc := 24) (i := 0) dX3_readPart_24 rfl rfl ?_
    refine VW_getR (pc := 25) dX3_readPart_25 fX3_12 (by first | assumption | rfl) rfl ?_
    refine VW_getI (pc := 28) dX3_readPart_28 fX3_39 (by first | assumption | rfl) rfl ?_
    refine V_iconst (pc := 31) (v := 1) dX3_readPart_31 (by decide) ?_
    refine V_icmp_ne (pc := 32) 59 dX3_readPart_32 rfl (fun c32 => ?_) (fun c32 => ?_)
    · rw [if_neg c32]
      refine V_aload_n (pc := 59) (i := 0) dX3_readPart_59 rfl rfl ?_
      refine V_bipush (pc := 60) (v := 40) dX3_readPart_60 (by decide) ?_
      refine V_V1i (pc := 62) dX3_readPart_62 cX3_108 (by first | assumption | rfl) (X3_takeSign (d := 6) x.1 _ hb (by omega)) (Nat.le_of_ble_eq_true rfl) (by omega) (Nat.le_of_ble_eq_true rfl) ?_
      refine V_if_ne (pc := 65) 70 dX3_readPart_65 rfl (fun c65 => ?_) (fun c65 => ?_)
      · rw [if_pos (b2i_n0.mp c65)]
        refine V_aload_n (pc := 70) (i := 0) dX3_readPart_70 rfl rfl ?_
        refine V_iload_n (pc := 71) (i := 1) dX3_readPart_71 rfl rfl ?_
        refine V_iconst (pc := 72) (v := 1) dX3_readPart_72 (by decide) ?_
        refine V_iadd (pc := 73) dX3_readPart_73 ?_
        rw [nI_1]
        refine V_V1i (pc := 74) dX3_readPart_74 cX3_147 (by first | assumption | rfl) (hx _ (XI_tkS x)) (Nat.le_of_ble_eq_true rfl) (by omega) (Nat.le_of_ble_eq_true rfl) ?_
        refine V_if_eq (pc := 77) 93 dX3_readPart_77 rfl (fun c77 => ?_) (fun c77 => ?_)
        · rw [if_neg (by rw [b2i_0.mp c77]; decide)]
          refine V_iconst (pc := 93) (v := 0) dX3_readPart_93 (by decide) ?_
          exact VE_zret (pc := 94) dX3_readPart_94 rfl (Or.inl rfl) rfl rfl
        · rw [if_pos (b2i_n0.mp c77)]
          refine V_aload_n (pc := 80) (i := 0) dX3_readPart_80 rfl rfl ?_
          refine V_bipush (pc := 81) (v := 41) dX3_readPart_81 (by decide) ?_
          refine V_V1i (pc := 83) dX3_readPart_83 cX3_108 (by first | assumption | rfl) (X3_takeSign (d := 6) (hX _ (XI_tkS x)).1 _ hb (by omega)) (Nat.le_of_ble_eq_true rfl) (by omega) (Nat.le_of_ble_eq_true rfl) ?_
          refine V_if_eq (pc := 86) 93 dX3_readPart_86 rfl (fun c86 => ?_) (fun c86 => ?_)
          · refine V_iconst (pc := 93) (v := 0) dX3_readPart_93 (by decide) ?_
            exact VE_zret (pc := 94) dX3_readPart_94 rfl (Or.inl rfl) (by rw [b2i_0.mp c86]; rfl) rfl
          · refine V_iconst (pc := 89) (v := 1) dX3_readPart_89 (by decide) ?_
            refine V_goto (pc := 90) 94 dX3_readPart_90 rfl ?_
            exact VE_zret (pc := 94) dX3_readPart_94 rfl (Or.inr rfl) (by rw [b2i_n0.mp c86]; rfl) rfl
      · rw [if_neg (by rw [b2i_0.mp c65]; decide)]
        refine V_iconst (pc := 68) (v := 0) dX3_readPart_68 (by decide) ?_
        exact VE_zret (pc := 69) dX3_readPart_69 rfl (Or.inl rfl) rfl rfl
    · rw [if_pos c32]
      refine V_aload_n (pc := 35) (i := 0) dX3_readPart_35 rfl rfl ?_
      refine V_V0i (pc := 36) dX3_readPart_36 cX3_185 (by first | assumption | rfl) (X3_valueHere (d := 5) x.1 (by omega)) (Nat.le_of_ble_eq_true rfl) (by omega) (Nat.le_of_ble_eq_true rfl) ?_
      refine V_istore_n (pc := 39) (i := 2) dX3_readPart_39 rfl (by decide) rfl ?_
      refine V_iload_n (pc := 40) (i := 2) dX3_readPart_40 rfl rfl ?_
      refine V_iconst (pc := 41) (v := -1) dX3_readPart_41 (by decide) ?_
      refine V_icmp_ne (pc := 42) 53 dX3_readPart_42 rfl (fun c42 => ?_) (fun c42 => ?_)
      · rw [if_neg c42]
        refine V_aload_n (pc := 53) (i := 0) dX3_readPart_53 rfl rfl ?_
        refine V_iload_n (pc := 54) (i := 2) dX3_readPart_54 rfl rfl ?_
        refine V_V1i (pc := 55) dX3_readPart_55 cX3_182 (by first | assumption | rfl) (X3_putPart (d := 6) x _ hb (by omega)) (Nat.le_of_ble_eq_true rfl) (by omega) (Nat.le_of_ble_eq_true rfl) ?_
        exact VE_zret (pc := 58) dX3_readPart_58 rfl (b2i_01 _) rfl rfl
      · rw [if_pos c42]
        refine V_aload_n (pc := 45) (i := 0) dX3_readPart_45 rfl rfl ?_
        refine V_iconst (pc := 46) (v := 3) dX3_readPart_46 (by decide) ?_
        refine V_V1i (pc := 47) dX3_readPart_47 cX3_79 (by first | assumption | rfl) (X3_refuse (d := 0) _ hb) (Nat.le_of_ble_eq_true rfl) (by omega) (Nat.le_of_ble_eq_true rfl) ?_
        refine V_goto (pc := 50) 58 dX3_readPart_50 rfl ?_
        exact VE_zret (pc := 58) dX3_readPart_58 rfl (Or.inl rfl) rfl rfl
  · rw [if_pos c8]
    refine V_aload_n (pc := 11) (i := 0) dX3_readPart_11 rfl rfl ?_
    refine V_aload_n (pc := 12) (i := 0) dX3_readPart_12 rfl rfl ?_
    refine V_iconst (pc := 13) (v := 0) dX3_readPart_13 (by decide) ?_
    refine V_sipush (pc := 14) (v := 9999) dX3_readPart_14 (by decide) ?_
    refine V_V2i (pc := 17) dX3_readPart_17 cX3_86 (by first | assumption | rfl) (X3_numberWithin (d := 2) x.1 _ _ hb (by omega)) (Nat.le_of_ble_eq_true rfl) (by omega) (Nat.le_of_ble_eq_true rfl) ?_
    refine V_V1i (pc := 20) dX3_readPart_20 cX3_182 (by first | assumption | rfl) (X3_putPart (d := 6) (XI_nmW x) _ hb (by omega)) (Nat.le_of_ble_eq_true rfl) (by omega) (Nat.le_of_ble_eq_true rfl) ?_
    exact VE_zret (pc := 23) dX3_readPart_23 rfl (b2i_01 _) rfl rfl
/-- a row of a level, when what is read within is known -/
theorem X3_readRow1 {t w lv D k : Nat} {R : (Nat → Nat → Int32) → Bool × (Nat → Nat → Int32)} {n : Int32 × (Nat → Nat → Int32)} (hlv : lv < 5) (hk : (lv = 2 → k = 1) ∧ (lv ≠ 2 → k = 700)) (hR : ∀ S, XI Z S t → XI Z (R S).2 t) (hD : 6 ≤ D) (hr : ∀ (S : Nat → Nat → Int32), XI Z S t → VM G mX3_readRow D 0 0 [.ref (b + 1), .int (nI (lv + 1)), .int (nI w)] (xE (some (.int (b2i (R S).1))) (wH G b tbC (R S).2 h0)) (wH G b tbC S h0)) (hn : n.1 = -1 ∨ ∃ j : Nat, j ≤ 6 ∧ n.1 = nI j) (x : XI Z n.2 t) (hb : gB G ≤ b) (hd : D + 1 ≤ d) :
    V G mX3_readRow d 0 0 (xE (some (.int (b2i (rowR t lv R k n).1))) (wH G b tbC (rowR t lv R k n).2 h0)) 24 [some (.ref (b + 1)), some (.int (nI lv)), some (.int (nI w)), none, none, none, none] [.int n.1] (wH G b tbC n.2 h0) := by
  unfold rowR
  -- %m X3_readRow
  refine V_istore_n (pc := 24) (i := 3) dX3_readRow_24 rfl (by decide) rfl ?_
  refine V_iload_n (pc := 25) (i := 3) dX3_readRow_25 rfl rfl ?_
  refine V_iconst (pc := 26) (v := -1) dX3_readRow_26 (by decide) ?_
  refine V_icmp_eq (pc := 27) 41 dX3_readRow_27 rfl (fun c27 => ?_) (fun c27 => ?_)
  · rw [if_pos c27]
    refine V_iconst (pc := 41) (v := 0) dX3_readRow_41 (by decide) ?_
    exact VE_zret (pc := 42) dX3_readRow_42 rfl (Or.inl rfl) rfl rfl
  rw [if_neg c27]
  obtain ⟨j, hj, ej⟩ := hn.resolve_left c27
  rw [ej, nI_clamp (by omega)]
  refine V_aload_n (pc := 30) (i := 0) dX3_readRow_30 rfl rfl ?_
  refine V_iload_n (pc := 31) (i := 1) dX3_readRow_31 rfl rfl ?_
  refine V_iconst (pc := 32) (v := 1) dX3_readRow_32 (by decide) ?_
  refine V_iadd (pc := 33) dX3_readRow_33 ?_
  rw [nI_1]
  refine V_iload_n (pc := 34) (i := 2) dX3_readRow_34 rfl rfl ?_
  refine V_V2i (pc := 35) dX3_readRow_35 cX3_157 (by first | assumption | rfl) (hr _ x) (Nat.le_of_ble_eq_true rfl) (by omega) (Nat.le_of_ble_eq_true rfl) ?_
  refine V_if_ne (pc := 38) 43 dX3_readRow_38 rfl (fun c38 => ?_) (fun c38 => ?_)
  · rw [if_pos (b2i_n0.mp c38)]
    have x2 := hR _ x
    generalize (R n.2).2 = S1 at x2
    -- the nots, behind all
    have nts : ∀ (m i : Nat) (S : Nat → Nat → Int32), m + i = j → XI Z S t → V G mX3_readRow d 0 0 (xE (some (.int (b2i true))) (wH G b tbC (notF t m S) h0)) 124 [some (.ref (b + 1)), some (.int (nI lv)), some (.int (nI w)), some (.int (nI j)), some (.int (nI k)), some (.int (nI i)), none] [] (wH G b tbC S h0) := by
      intro m
      induction m with
      | zero =>
        intro i S hm x
        refine V_iload (pc := 124) dX3_readRow_124 rfl ?_
        refine V_iload_n (pc := 126) (i := 3) dX3_readRow_126 rfl rfl ?_
        refine V_icmp_ge (pc := 127) 149 dX3_readRow_127 rfl (fun c127 => ?_) (fun c127 => ?_)
        · refine V_iconst (pc := 149) (v := 1) dX3_readRow_149 (by decide) ?_
          exact VE_zret (pc := 150) dX3_readRow_150 rfl (Or.inr rfl) rfl rfl
        · exact absurd (by rw [show i = j by omega]; exact nI_le (by omega) (by omega)) c127
      | succ m ih =>
        intro i S hm x
        have hS := tbC_shore (S 1 1)
        rw [x.2.1] at hS
        obtain ⟨a0, a1, a2, a3, -⟩ := id hS
        obtain ⟨r0, -⟩ := id a3
        have hsh := x.2.1
        rw [notF]
        refine V_iload (pc := 124) dX3_readRow_124 rfl ?_
        refine V_iload_n (pc := 126) (i := 3) dX3_readRow_126 rfl rfl ?_
        refine V_icmp_ge (pc := 127) 149 dX3_readRow_127 rfl (fun c127 => ?_) (fun c127 => ?_)
        · exact absurd c127 (nI_ge (by omega) (by omega))
        · refine V_aload_n (pc := 130) (i := 0) dX3_readRow_130 rfl rfl ?_
          refine VW_getWs (pc := 131) dX3_readRow_131 fX3_21 (by first | assumption | rfl) rfl (by first | assumption | (simp (disch := omega) only [up2_row, up2_col, up2_same, upR_row]; assumption)) ?_
          refine VW_getR (pc := 134) dX3_readRow_134 fX3_138 (by first | assumption | rfl) rfl ?_
          refine V_sipush (pc := 137) (v := 10007) dX3_readRow_137 (by decide) ?_
          refine V_V1v (pc := 140) dX3_readRow_140 cX3_170 (by first | assumption | rfl) (X4_ra (d := 0) x _ hb) (Nat.le_of_ble_eq_true rfl) (by omega) (Nat.le_of_ble_eq_true rfl) ?_
          refine V_iinc (pc := 143) dX3_readRow_143 (by decide) rfl rfl (iincN (n := 1) (by decide)) ?_
          refine V_goto (pc := 146) 124 dX3_readRow_146 rfl ?_
          exact ih (i + 1) _ (by omega) (XI_raS x)
    have ops : ∀ (m i : Nat) (S : Nat → Nat → Int32), m + i = k → XI Z S t → V G mX3_readRow d 0 0 (xE (some (.int (b2i (if (opsF t lv R m S).1 then (true, notF t j (opsF t lv R m S).2) else (false, (opsF t lv R m S).2)).1))) (wH G b tbC (if (opsF t lv R m S).1 then (true, notF t j (opsF t lv R m S).2) else (false, (opsF t lv R m S).2)).2 h0)) 60 [some (.ref (b + 1)), some (.int (nI lv)), some (.int (nI w)), some (.int (nI j)), some (.int (nI k)), some (.int (nI i)), none] [] (wH G b tbC S h0) := by
      have hk7 : k ≤ 700 := by
        by_cases e : lv = 2
        · rw [hk.1 e]; decide
        · rw [hk.2 e]; decide
      intro m
      induction m with
      | zero =>
        intro i S hm x
        rw [opsF, if_pos rfl]
        refine V_iload (pc := 60) dX3_readRow_60 rfl ?_
        refine V_iload (pc := 62) dX3_readRow_62 rfl ?_
        refine V_icmp_ge (pc := 64) 121 dX3_readRow_64 rfl (fun c64 => ?_) (fun c64 => ?_)
        · refine V_iconst (pc := 121) (v := 0) dX3_readRow_121 (by decide) ?_
          refine V_istore (pc := 122) dX3_readRow_122 (by decide) rfl ?_
          exact nts j 0 S (by omega) x
        · exact absurd (by rw [show i = k by omega]; exact nI_le (by omega) (by omega)) c64
      | succ m ih =>
        intro i S hm x
        have x3 := hR _ (XI_adv x)
        have hS := tbC_shore ((R (adv S)).2 1 1)
        rw [x3.2.1] at hS
        obtain ⟨a0, a1, a2, a3, -⟩ := id hS
        obtain ⟨r0, -⟩ := id a3
        have hsh := x3.2.1
        rw [opsF]
        refine V_iload (pc := 60) dX3_readRow_60 rfl ?_
        refine V_iload (pc := 62) dX3_readRow_62 rfl ?_
        refine V_icmp_ge (pc := 64) 121 dX3_readRow_64 rfl (fun c64 => ?_) (fun c64 => ?_)
        · exact absurd c64 (nI_ge (by omega) (by omega))
        · refine V_aload_n (pc := 67) (i := 0) dX3_readRow_67 rfl rfl ?_
          refine V_iload_n (pc := 68) (i := 1) dX3_readRow_68 rfl rfl ?_
          refine V_V1i (pc := 69) dX3_readRow_69 cX3_166 (by first | assumption | rfl) (X3_operatorHere (d := 5) x.1 lv hlv (by omega)) (Nat.le_of_ble_eq_true rfl) (by omega) (Nat.le_of_ble_eq_true rfl) ?_
          refine V_istore (pc := 72) dX3_readRow_72 (by decide) rfl ?_
          refine V_iload (pc := 74) dX3_readRow_74 rfl ?_
          refine V_iconst (pc := 76) (v := -1) dX3_readRow_76 (by decide) ?_
          refine V_icmp_ne (pc := 77) 83 dX3_readRow_77 rfl (fun c77 => ?_) (fun c77 => ?_)
          · rw [if_neg c77]
            refine V_aload_n (pc := 83) (i := 0) dX3_readRow_83 rfl rfl ?_
            refine VW_getR (pc := 84) dX3_readRow_84 fX3_12 (by first | assumption | rfl) rfl ?_
            refine V_V0v (pc := 87) dX3_readRow_87 cX3_83 (by first | assumption | rfl) (X9_adv (d := 5) x.1 hb (by omega)) (Nat.le_of_ble_eq_true rfl) (by omega) (Nat.le_of_ble_eq_true rfl) ?_
            refine V_aload_n (pc := 90) (i := 0) dX3_readRow_90 rfl rfl ?_
            refine V_iload_n (pc := 91) (i := 1) dX3_readRow_91 rfl rfl ?_
            refine V_iconst (pc := 92) (v := 1) dX3_readRow_92 (by decide) ?_
            refine V_iadd (pc := 93) dX3_readRow_93 ?_
            rw [nI_1]
            refine V_iload_n (pc := 94) (i := 2) dX3_readRow_94 rfl rfl ?_
            refine V_V2i (pc := 95) dX3_readRow_95 cX3_157 (by first | assumption | rfl) (hr _ (XI_adv x)) (Nat.le_of_ble_eq_true rfl) (by omega) (Nat.le_of_ble_eq_true rfl) ?_
            refine V_if_ne (pc := 98) 103 dX3_readRow_98 rfl (fun c98 => ?_) (fun c98 => ?_)
            · rw [if_pos (b2i_n0.mp c98)]
              refine V_aload_n (pc := 103) (i := 0) dX3_readRow_103 rfl rfl ?_
              refine VW_getWs (pc := 104) dX3_readRow_104 fX3_21 (by first | assumption | rfl) rfl (by first | assumption | (simp (disch := omega) only [up2_row, up2_col, up2_same, upR_row]; assumption)) ?_
              refine VW_getR (pc := 107) dX3_readRow_107 fX3_138 (by first | assumption | rfl) rfl ?_
              refine V_iload (pc := 110) dX3_readRow_110 rfl ?_
              refine V_V1v (pc := 112) dX3_readRow_112 cX3_170 (by first | assumption | rfl) (X4_ra (d := 0) x3 _ hb) (Nat.le_of_ble_eq_true rfl) (by omega) (Nat.le_of_ble_eq_true rfl) ?_
              refine V_iinc (pc := 115) dX3_readRow_115 (by decide) rfl rfl (iincN (n := 1) (by decide)) ?_
              refine V_goto (pc := 118) 60 dX3_readRow_118 rfl ?_
              exact V_forget 6 (ih (i + 1) _ (by omega) (XI_raS x3))
            · rw [if_neg (show ¬ (R (adv S)).1 = true by rw [b2i_0.mp c98]; exact Bool.false_ne_true)]
              simp only [Bool.false_eq_true, if_false]
              refine V_iconst (pc := 101) (v := 0) dX3_readRow_101 (by decide) ?_
              exact VE_zret (pc := 102) dX3_readRow_102 rfl (Or.inl rfl) rfl rfl
          · rw [if_pos c77, if_pos rfl]
            refine V_goto (pc := 80) 121 dX3_readRow_80 rfl ?_
            refine V_iconst (pc := 121) (v := 0) dX3_readRow_121 (by decide) ?_
            refine V_istore (pc := 122) dX3_readRow_122 (by decide) rfl ?_
            exact V_forget 6 (nts j 0 S (by omega) x)
    refine V_iload_n (pc := 43) (i := 1) dX3_readRow_43 rfl rfl ?_
    refine V_iconst (pc := 44) (v := 2) dX3_readRow_44 (by decide) ?_
    by_cases e : lv = 2
    · subst e
      have ek := hk.1 rfl
      subst ek
      refine V_icmp_ne (pc := 45) 52 dX3_readRow_45 rfl (fun c => absurd rfl c) (fun c => ?_)
      refine V_iconst (pc := 48) (v := 1) dX3_readRow_48 (by decide) ?_
      refine V_goto (pc := 49) 55 dX3_readRow_49 rfl ?_
      refine V_istore (pc := 55) dX3_readRow_55 (by decide) rfl ?_
      refine V_iconst (pc := 57) (v := 0) dX3_readRow_57 (by decide) ?_
      refine V_istore (pc := 58) dX3_readRow_58 (by decide) rfl ?_
      exact ops 1 0 S1 (by omega) x2
    · have ek := hk.2 e
      subst ek
      refine V_icmp_ne (pc := 45) 52 dX3_readRow_45 rfl (fun c => ?_) (fun c => absurd ((nI_eq (b := 2) (by omega) (by decide)).mp c) e)
      refine V_sipush (pc := 52) (v := 700) dX3_readRow_52 (by decide) ?_
      refine V_istore (pc := 55) dX3_readRow_55 (by decide) rfl ?_
      refine V_iconst (pc := 57) (v := 0) dX3_readRow_57 (by decide) ?_
      refine V_istore (pc := 58) dX3_readRow_58 (by decide) rfl ?_
      exact ops 700 0 S1 (by omega) x2
  · rw [if_neg (by rw [b2i_0.mp c38]; decide)]
    refine V_iconst (pc := 41) (v := 0) dX3_readRow_41 (by decide) ?_
    exact VE_zret (pc := 42) dX3_readRow_42 rfl (Or.inl rfl) rfl rfl
theorem X3_readRow {t w D : Nat} {P : (Nat → Nat → Int32) → Bool × (Nat → Nat → Int32)} (hP : ∀ S, XI Z S t → XI Z (P S).2 t) (hD : 7 ≤ D) (hp : ∀ (S : Nat → Nat → Int32), XI Z S t → VM G mX3_readPart D 0 0 [.ref (b + 1), .int (nI w)] (xE (some (.int (b2i (P S).1))) (wH G b tbC (P S).2 h0)) (wH G b tbC S h0)) (hb : gB G ≤ b) :
    ∀ (j : Nat) (S : Nat → Nat → Int32) (d : Nat), j ≤ 5 → XI Z S t → D + 1 + j ≤ d → VM G mX3_readRow d 0 0 [.ref (b + 1), .int (nI (5 - j)), .int (nI w)] (xE (some (.int (b2i (rowF t P j S).1))) (wH G b tbC (rowF t P j S).2 h0)) (wH G b tbC S h0) := by
  intro j
  induction j with
  | zero =>
    intro S d hj x hd
    refine VM_start (ls := [some (.ref (b + 1)), some (.int (nI 5)), some (.int (nI w)), none, none, none, none]) rfl ?_
    rw [rowF]
    -- %m X3_readRow
    refine V_iload_n (pc := 0) (i := 1) dX3_readRow_0 rfl rfl ?_
    refine V_iconst (pc := 1) (v := 4) dX3_readRow_1 (by decide) ?_
    refine V_icmp_le (pc := 2) 11 dX3_readRow_2 rfl (fun c => absurd c (by decide)) (fun c => ?_)
    refine V_aload_n (pc := 5) (i := 0) dX3_readRow_5 rfl rfl ?_
    refine V_iload_n (pc := 6) (i := 2) dX3_readRow_6 rfl rfl ?_
    refine V_V1i (pc := 7) dX3_readRow_7 cX3_160 (by first | assumption | rfl) (hp S x) (Nat.le_of_ble_eq_true rfl) (by omega) (Nat.le_of_ble_eq_true rfl) ?_
    exact VE_zret (pc := 10) dX3_readRow_10 rfl (b2i_01 _) rfl rfl
  | succ j ih =>
    intro S d hj x hd
    refine VM_start (ls := [some (.ref (b + 1)), some (.int (nI (5 - (j + 1)))), some (.int (nI w)), none, none, none, none]) rfl ?_
    rw [rowF, show 5 - (j + 1) = 4 - j by omega]
    -- %m X3_readRow
    refine V_iload_n (pc := 0) (i := 1) dX3_readRow_0 rfl rfl ?_
    refine V_iconst (pc := 1) (v := 4) dX3_readRow_1 (by decide) ?_
    refine V_icmp_le (pc := 2) 11 dX3_readRow_2 rfl (fun c => ?_) (fun c => absurd (nI_le (b := 4) (by omega) (by decide)) c)
    refine V_iload_n (pc := 11) (i := 1) dX3_readRow_11 rfl rfl ?_
    refine V_iconst (pc := 12) (v := 2) dX3_readRow_12 (by decide) ?_
    have hr : ∀ (S : Nat → Nat → Int32), XI Z S t → VM G mX3_readRow (D + 1 + j) 0 0 [.ref (b + 1), .int (nI (4 - j + 1)), .int (nI w)] (xE (some (.int (b2i (rowF t P j S).1))) (wH G b tbC (rowF t P j S).2 h0)) (wH G b tbC S h0) := fun S x => by
      have := ih S (D + 1 + j) (by omega) x (Nat.le_refl _)
      rw [show 5 - j = 4 - j + 1 by omega] at this
      exact this
    by_cases e : j = 2
    · subst e
      rw [if_pos rfl]
      refine V_icmp_ne (pc := 13) 23 dX3_readRow_13 rfl (fun c => absurd rfl c) (fun c => ?_)
      refine V_aload_n (pc := 16) (i := 0) dX3_readRow_16 rfl rfl ?_
      refine V_V0i (pc := 17) dX3_readRow_17 cX3_163 (by first | assumption | rfl) (X3_takeNots (d := 6) x.1 hb (by omega)) (Nat.le_of_ble_eq_true rfl) (by omega) (Nat.le_of_ble_eq_true rfl) ?_
      refine V_goto (pc := 20) 24 dX3_readRow_20 rfl ?_
      exact X3_readRow1 (D := D + 1 + 2) (by decide) ⟨fun _ => rfl, fun q => absurd rfl q⟩ (XI_rowF hP 2) (by omega) hr (by have := ntF_v 6 0 S; exact this) (XI_ntF _ _ _ x) hb (by omega)
    · rw [if_neg e]
      refine V_icmp_ne (pc := 13) 23 dX3_readRow_13 rfl (fun c => ?_) (fun c => absurd ((nI_eq (b := 2) (by omega) (by decide)).mp c) (by omega))
      refine V_iconst (pc := 23) (v := 0) dX3_readRow_23 (by decide) ?_
      exact X3_readRow1 (n := (0, S)) (D := D + 1 + j) (by omega) ⟨fun q => absurd q (by omega), fun _ => rfl⟩ (XI_rowF hP j) (by omega) hr (Or.inr ⟨0, by decide, rfl⟩) x hb (by omega)
/-- where nothing starts, nothing is read -/
theorem X3_readRow6 {t w : Nat} (x : XI Z S t) (hst : stS S = false) (hb : gB G ≤ b) :
    ∀ (j d : Nat), j ≤ 5 → 8 + j ≤ d → VM G mX3_readRow d 0 0 [.ref (b + 1), .int (nI (5 - j)), .int (nI w)] (xE (some (.int 0)) (wH G b tbC (rfs S 1) h0)) (wH G b tbC S h0) := by
  have k2 : ¬ S 2 6 = 2 := fun q => by rw [stS, decide_eq_true q] at hst; cases hst
  have k1 : ¬ S 2 6 = 1 := fun q => by rw [stS, decide_eq_true q, Bool.or_true, Bool.true_or] at hst; cases hst
  have k3 : sgn S 40 = false := by
    cases hz : sgn S 40 with
    | false => rfl
    | true => rw [stS, hz, Bool.or_true] at hst; cases hst
  have kn : wrd S lNot = false := by rw [wrd, decide_eq_false k1]; rfl
  have en : ntF 6 0 S = (nI 0, S) := by rw [ntF, if_neg (by rw [kn]; decide)]
  have es : tkS S 40 = (false, rfs S 1) := by rw [tkS, if_neg (by rw [k3]; decide)]
  have hpart : ∀ d, 7 ≤ d → VM G mX3_readPart d 0 0 [.ref (b + 1), .int (nI w)] (xE (some (.int 0)) (wH G b tbC (rfs S 1) h0)) (wH G b tbC S h0) := by
    intro d hd
    refine VM_start (ls := [some (.ref (b + 1)), some (.int (nI w)), none]) rfl ?_
    have hs := X3_takeSign (G := G) (b := b) (h0 := h0) (d := 6) x.1 40 hb (Nat.le_refl _)
    rw [es] at hs
    -- %m X3_readPart
    refine V_aload_n (pc := 0) (i := 0) dX3_readPart_0 rfl rfl ?_
    refine VW_getR (pc := 1) dX3_readPart_1 fX3_12 (by first | assumption | rfl) rfl ?_
    refine VW_getI (pc := 4) dX3_readPart_4 fX3_39 (by first | assumption | rfl) rfl ?_
    refine V_iconst (pc := 7) (v := 2) dX3_readPart_7 (by decide) ?_
    refine V_icmp_ne (pc := 8) 24 dX3_readPart_8 rfl (fun c8 => ?_) (fun c8 => ?_)
    · refine V_aload_n (pc := 24) (i := 0) dX3_readPart_24 rfl rfl ?_
      refine VW_getR (pc := 25) dX3_readPart_25 fX3_12 (by first | assumption | rfl) rfl ?_
      refine VW_getI (pc := 28) dX3_readPart_28 fX3_39 (by first | assumption | rfl) rfl ?_
      refine V_iconst (pc := 31) (v := 1) dX3_readPart_31 (by decide) ?_
      refine V_icmp_ne (pc := 32) 59 dX3_readPart_32 rfl (fun c32 => ?_) (fun c32 => ?_)
      · refine V_aload_n (pc := 59) (i := 0) dX3_readPart_59 rfl rfl ?_
        refine V_bipush (pc := 60) (v := 40) dX3_readPart_60 (by decide) ?_
        refine V_V1i (pc := 62) dX3_readPart_62 cX3_108 (by first | assumption | rfl) hs (Nat.le_of_ble_eq_true rfl) (by omega) (Nat.le_of_ble_eq_true rfl) ?_
        refine V_if_ne (pc := 65) 70 dX3_readPart_65 rfl (fun c65 => ?_) (fun c65 => ?_)
        · exact absurd rfl c65
        · refine V_iconst (pc := 68) (v := 0) dX3_readPart_68 (by decide) ?_
          exact VE_zret (pc := 69) dX3_readPart_69 rfl (Or.inl rfl) rfl rfl
      · exact absurd c32 k1
    · exact absurd c8 k2
  intro j
  induction j with
  | zero =>
    intro d hj hd
    refine VM_start (ls := [some (.ref (b + 1)), some (.int (nI 5)), some (.int (nI w)), none, none, none, none]) rfl ?_
    -- %m X3_readRow
    refine V_iload_n (pc := 0) (i := 1) dX3_readRow_0 rfl rfl ?_
    refine V_iconst (pc := 1) (v := 4) dX3_readRow_1 (by decide) ?_
    refine V_icmp_le (pc := 2) 11 dX3_readRow_2 rfl (fun c => absurd c (by decide)) (fun c => ?_)
    refine V_aload_n (pc := 5) (i := 0) dX3_readRow_5 rfl rfl ?_
    refine V_iload_n (pc := 6) (i := 2) dX3_readRow_6 rfl rfl ?_
    refine V_V1i (pc := 7) dX3_readRow_7 cX3_160 (by first | assumption | rfl) (hpart 7 (Nat.le_refl _)) (Nat.le_of_ble_eq_true rfl) (by omega) (Nat.le_of_ble_eq_true rfl) ?_
    exact VE_zret (pc := 10) dX3_readRow_10 rfl (Or.inl rfl) rfl rfl
  | succ j ih =>
    intro d hj hd
    refine VM_start (ls := [some (.ref (b + 1)), some (.int (nI (5 - (j + 1)))), some (.int (nI w)), none, none, none, none]) rfl ?_
    rw [show 5 - (j + 1) = 4 - j by omega]
    have ih2 := ih (8 + j) (by omega) (Nat.le_refl _)
    rw [show 5 - j = 4 - j + 1 by omega] at ih2
    -- %m X3_readRow
    refine V_iload_n (pc := 0) (i := 1) dX3_readRow_0 rfl rfl ?_
    refine V_iconst (pc := 1) (v := 4) dX3_readRow_1 (by decide) ?_
    refine V_icmp_le (pc := 2) 11 dX3_readRow_2 rfl (fun c => ?_) (fun c => absurd (nI_le (b := 4) (by omega) (by decide)) c)
    refine V_iload_n (pc := 11) (i := 1) dX3_readRow_11 rfl rfl ?_
    refine V_iconst (pc := 12) (v := 2) dX3_readRow_12 (by decide) ?_
    have fin : V G mX3_readRow d 0 0 (xE (some (.int 0)) (wH G b tbC (rfs S 1) h0)) 24 [some (.ref (b + 1)), some (.int (nI (4 - j))), some (.int (nI w)), none, none, none, none] [.int 0] (wH G b tbC S h0) := by
      refine V_istore_n (pc := 24) (i := 3) dX3_readRow_24 rfl (by decide) rfl ?_
      refine V_iload_n (pc := 25) (i := 3) dX3_readRow_25 rfl rfl ?_
      refine V_iconst (pc := 26) (v := -1) dX3_readRow_26 (by decide) ?_
      refine V_icmp_eq (pc := 27) 41 dX3_readRow_27 rfl (fun c => absurd c (by decide)) (fun c => ?_)
      refine V_aload_n (pc := 30) (i := 0) dX3_readRow_30 rfl rfl ?_
      refine V_iload_n (pc := 31) (i := 1) dX3_readRow_31 rfl rfl ?_
      refine V_iconst (pc := 32) (v := 1) dX3_readRow_32 (by decide) ?_
      refine V_iadd (pc := 33) dX3_readRow_33 ?_
      rw [nI_1]
      refine V_iload_n (pc := 34) (i := 2) dX3_readRow_34 rfl rfl ?_
      refine V_V2i (pc := 35) dX3_readRow_35 cX3_157 (by first | assumption | rfl) ih2 (Nat.le_of_ble_eq_true rfl) (by omega) (Nat.le_of_ble_eq_true rfl) ?_
      refine V_if_ne (pc := 38) 43 dX3_readRow_38 rfl (fun c => absurd rfl c) (fun c => ?_)
      refine V_iconst (pc := 41) (v := 0) dX3_readRow_41 (by decide) ?_
      exact VE_zret (pc := 42) dX3_readRow_42 rfl (Or.inl rfl) rfl rfl
    refine V_icmp_ne (pc := 13) 23 dX3_readRow_13 rfl (fun c13 => ?_) (fun c13 => ?_)
    · refine V_iconst (pc := 23) (v := 0) dX3_readRow_23 (by decide) ?_
      exact fin
    · have hN := X3_takeNots (G := G) (b := b) (h0 := h0) (d := 6) x.1 hb (Nat.le_refl _)
      rw [en] at hN
      refine V_aload_n (pc := 16) (i := 0) dX3_readRow_16 rfl rfl ?_
      refine V_V0i (pc := 17) dX3_readRow_17 cX3_163 (by first | assumption | rfl) hN (Nat.le_of_ble_eq_true rfl) (by omega) (Nat.le_of_ble_eq_true rfl) ?_
      refine V_goto (pc := 20) 24 dX3_readRow_20 rfl ?_
      exact fin
theorem X3_readExpr {t : Nat} (hb : gB G ≤ b) : ∀ (f : Nat) (S : Nat → Nat → Int32) (d : Nat), f ≤ 6 → XI Z S t → 16 + 9 * f ≤ d → VM G mX3_readExpr d 0 0 [.ref (b + 1), .int (nI (6 - f))] (xE (some (.int (b2i (exF t f S).1))) (wH G b tbC (exF t f S).2 h0)) (wH G b tbC S h0) := by
  intro f
  induction f with
  | zero =>
    intro S d hf x hd
    refine VM_start (ls := [some (.ref (b + 1)), some (.int (nI 6))]) rfl ?_
    rw [exF]
    -- %m X3_readExpr
    refine V_iload_n (pc := 0) (i := 1) dX3_readExpr_0 rfl rfl ?_
    refine V_bipush (pc := 1) (v := 6) dX3_readExpr_1 (by decide) ?_
    refine V_icmp_lt (pc := 3) 19 dX3_readExpr_3 rfl (fun c => absurd c (by decide)) (fun c => ?_)
    refine V_aload_n (pc := 6) (i := 0) dX3_readExpr_6 rfl rfl ?_
    refine V_V0i (pc := 7) dX3_readExpr_7 cX3_154 (by first | assumption | rfl) (X3_startsSomething (d := 1) (by omega)) (Nat.le_of_ble_eq_true rfl) (by omega) (Nat.le_of_ble_eq_true rfl) ?_
    refine V_if_eq (pc := 10) 19 dX3_readExpr_10 rfl (fun c10 => ?_) (fun c10 => ?_)
    · have e := b2i_0.mp c10
      rw [if_neg (by rw [e]; decide)]
      refine V_aload_n (pc := 19) (i := 0) dX3_readExpr_19 rfl rfl ?_
      refine V_iconst (pc := 20) (v := 0) dX3_readExpr_20 (by decide) ?_
      refine V_iload_n (pc := 21) (i := 1) dX3_readExpr_21 rfl rfl ?_
      refine V_V2i (pc := 22) dX3_readExpr_22 cX3_157 (by first | assumption | rfl) (X3_readRow6 x e hb 5 13 (by decide) (by decide)) (Nat.le_of_ble_eq_true rfl) (by omega) (Nat.le_of_ble_eq_true rfl) ?_
      exact VE_zret (pc := 25) dX3_readExpr_25 rfl (Or.inl rfl) rfl rfl
    · rw [if_pos (b2i_n0.mp c10)]
      refine V_aload_n (pc := 13) (i := 0) dX3_readExpr_13 rfl rfl ?_
      refine V_iconst (pc := 14) (v := 2) dX3_readExpr_14 (by decide) ?_
      refine V_V1i (pc := 15) dX3_readExpr_15 cX3_79 (by first | assumption | rfl) (X3_refuse (d := 0) _ hb) (Nat.le_of_ble_eq_true rfl) (by omega) (Nat.le_of_ble_eq_true rfl) ?_
      exact VE_zret (pc := 18) dX3_readExpr_18 rfl (Or.inl rfl) rfl rfl
  | succ f ih =>
    intro S d hf x hd
    refine VM_start (ls := [some (.ref (b + 1)), some (.int (nI (6 - (f + 1))))]) rfl ?_
    rw [exF]
    -- %m X3_readExpr
    refine V_iload_n (pc := 0) (i := 1) dX3_readExpr_0 rfl rfl ?_
    refine V_bipush (pc := 1) (v := 6) dX3_readExpr_1 (by decide) ?_
    refine V_icmp_lt (pc := 3) 19 dX3_readExpr_3 rfl (fun c => ?_) (fun c => absurd (nI_lt (b := 6) (by omega) (by decide)) c)
    have hpt : ∀ (S : Nat → Nat → Int32), XI Z S t → VM G mX3_readPart (16 + 9 * f + 1) 0 0 [.ref (b + 1), .int (nI (6 - (f + 1)))] (xE (some (.int (b2i (partF t (exF t f) S).1))) (wH G b tbC (partF t (exF t f) S).2 h0)) (wH G b tbC S h0) := fun S x => by
      refine X3_readPart (D := 16 + 9 * f) (XI_exF f) (by omega) (by omega) (fun S x => ?_) x hb (Nat.le_refl _)
      have := ih S (16 + 9 * f) (by omega) x (Nat.le_refl _)
      rw [show 6 - f = 6 - (f + 1) + 1 by omega] at this
      exact this
    refine V_aload_n (pc := 19) (i := 0) dX3_readExpr_19 rfl rfl ?_
    refine V_iconst (pc := 20) (v := 0) dX3_readExpr_20 (by decide) ?_
    refine V_iload_n (pc := 21) (i := 1) dX3_readExpr_21 rfl rfl ?_
    refine V_V2i (pc := 22) dX3_readExpr_22 cX3_157 (by first | assumption | rfl) (X3_readRow (D := 16 + 9 * f + 1) (XI_partF (XI_exF f)) (by omega) hpt hb 5 S (16 + 9 * f + 7) (by decide) x (by omega)) (Nat.le_of_ble_eq_true rfl) (by omega) (Nat.le_of_ble_eq_true rfl) ?_
    exact VE_zret (pc := 25) dX3_readExpr_25 rfl (b2i_01 _) rfl rfl
end Ex
