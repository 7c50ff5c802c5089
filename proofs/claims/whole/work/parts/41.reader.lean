/-! ===== Reader: what stands, what is refused ===== -/
section Rd
variable {G : xG} {d : Nat} {b : Nat} {S T Z : Nat → Nat → Int32} {h0 h : xH}
def lWorth : List Int32 := [119, 111, 114, 116, 104]
def lPerson : List Int32 := [112, 101, 114, 115, 111, 110]
def lIf : List Int32 := [105, 102]
def lUnless : List Int32 := [117, 110, 108, 101, 115, 115]
def lBridge : List Int32 := [98, 114, 105, 100, 103, 101]
def lCrosses : List Int32 := [99, 114, 111, 115, 115, 101, 115]
def lNot : List Int32 := [110, 111, 116]
def lOr : List Int32 := [111, 114]
def lAnd : List Int32 := [97, 110, 100]
def lLonging : List Int32 := [108, 111, 110, 103, 105, 110, 103]
def lHere : List Int32 := [104, 101, 114, 101]
def lThere : List Int32 := [116, 104, 101, 114, 101]
def lSpared : List Int32 := [115, 112, 97, 114, 101, 100]
def lSunday : List Int32 := [115, 117, 110, 100, 97, 121]
def lFlowers : List Int32 := [102, 108, 111, 119, 101, 114, 115]
def lLast : List Int32 := [108, 97, 115, 116]
theorem X9_word {i k : Nat} {o tx : String} (l : List Int32) (hi : xStr[i]? = some (o, k, tx, l)) (t : TI S) (hd : 4 ≤ d) : VM G mX9_wordIs d 0 0 [.ref (b + 2), .ref (gK G i)] (xE (some (.int (b2i (wrd S l)))) (wH G b tbC S h0)) (wH G b tbC S h0) := X9_wordIs hi t hd
theorem TI_of (t : TI S) (h : T 2 = S 2) : TI T := by
  unfold TI tL tP tE at *
  rw [h]
  exact t
/-- a FAULT: its number, the TOKEN's place -/
def rfs (S : Nat → Nat → Int32) (k : Int32) : Nat → Nat → Int32 := up2 (up2 S 1 2 k) 1 3 (S 2 5)
theorem rfs_off {k : Int32} {j : Nat} (h : j ≠ 1) : rfs S k j = S j := by rw [rfs, up2_row h, up2_row h]
theorem rfs_1 {k : Int32} : rfs S k 1 1 = S 1 1 := by rw [rfs, up2_col (by decide), up2_col (by decide)]
theorem X3_refuse (k : Int32) (hb : gB G ≤ b) : VM G mX3_refuse d 0 0 [.ref (b + 1), .int k] (xE (some (.int 0)) (wH G b tbC (rfs S k) h0)) (wH G b tbC S h0) := by
  refine VM_start (ls := [some (.ref (b + 1)), some (.int k)]) rfl ?_
  -- %m X3_refuse
  refine V_aload_n (pc := 0) (i := 0) dX3_refuse_0 rfl rfl ?_
  refine V_iload_n (pc := 1) (i := 1) dX3_refuse_1 rfl rfl ?_
  refine VW_putI (pc := 2) dX3_refuse_2 fX3_25 ftX3 (fpI rfl rfl (tyX3_ok 2 (by decide))) (by first | assumption | rfl) rfl (by assumption) ?_
  refine V_aload_n (pc := 5) (i := 0) dX3_refuse_5 rfl rfl ?_
  refine V_aload_n (pc := 6) (i := 0) dX3_refuse_6 rfl rfl ?_
  refine VW_getR (pc := 7) dX3_refuse_7 fX3_12 (by first | assumption | rfl) rfl ?_
  refine VW_getI (pc := 10) dX3_refuse_10 fX3_46 (by first | assumption | rfl) rfl ?_
  rw [up2_row (by decide)]
  refine VW_putI (pc := 13) dX3_refuse_13 fX3_29 ftX3 (fpI rfl rfl (tyX3_ok 3 (by decide))) (by first | assumption | rfl) rfl (by assumption) ?_
  refine V_iconst (pc := 16) (v := 0) dX3_refuse_16 (by decide) ?_
  exact VE_zret (pc := 17) dX3_refuse_17 rfl (Or.inl rfl) rfl rfl
/-- a sign is taken -/
def tkS (S : Nat → Nat → Int32) (c : Int32) : Bool × (Nat → Nat → Int32) := if sgn S c then (true, adv S) else (false, rfs S 1)
theorem X3_takeSign (t : TI S) (c : Int32) (hb : gB G ≤ b) (hd : 6 ≤ d) : VM G mX3_takeSign d 0 0 [.ref (b + 1), .int c] (xE (some (.int (b2i (tkS S c).1))) (wH G b tbC (tkS S c).2 h0)) (wH G b tbC S h0) := by
  refine VM_start (ls := [some (.ref (b + 1)), some (.int c)]) rfl ?_
  unfold tkS
  -- %m X3_takeSign
  refine V_aload_n (pc := 0) (i := 0) dX3_takeSign_0 rfl rfl ?_
  refine VW_getR (pc := 1) dX3_takeSign_1 fX3_12 (by first | assumption | rfl) rfl ?_
  refine V_iload_n (pc := 4) (i := 1) dX3_takeSign_4 rfl rfl ?_
  refine V_V1i (pc := 5) dX3_takeSign_5 cX3_97 (by first | assumption | rfl) (X9_signIs (d := 0) _) (Nat.le_of_ble_eq_true rfl) (by omega) (Nat.le_of_ble_eq_true rfl) ?_
  refine V_if_ne (pc := 8) 17 dX3_takeSign_8 rfl (fun c8 => ?_) (fun c8 => ?_)
  · rw [if_pos (b2i_n0.mp c8)]
    refine V_aload_n (pc := 17) (i := 0) dX3_takeSign_17 rfl rfl ?_
    refine VW_getR (pc := 18) dX3_takeSign_18 fX3_12 (by first | assumption | rfl) rfl ?_
    refine V_V0v (pc := 21) dX3_takeSign_21 cX3_83 (by first | assumption | rfl) (X9_adv (d := 5) t hb (by omega)) (Nat.le_of_ble_eq_true rfl) (by omega) (Nat.le_of_ble_eq_true rfl) ?_
    refine V_iconst (pc := 24) (v := 1) dX3_takeSign_24 (by decide) ?_
    exact VE_zret (pc := 25) dX3_takeSign_25 rfl (Or.inr rfl) rfl rfl
  · rw [if_neg (by rw [b2i_0.mp c8]; decide)]
    refine V_aload_n (pc := 11) (i := 0) dX3_takeSign_11 rfl rfl ?_
    refine V_iconst (pc := 12) (v := 1) dX3_takeSign_12 (by decide) ?_
    refine V_V1i (pc := 13) dX3_takeSign_13 cX3_79 (by first | assumption | rfl) (X3_refuse (d := 0) _ hb) (Nat.le_of_ble_eq_true rfl) (by omega) (Nat.le_of_ble_eq_true rfl) ?_
    exact VE_zret (pc := 16) dX3_takeSign_16 rfl (Or.inl rfl) rfl rfl
/-- a NUMBER within bounds -/
def nmW (S : Nat → Nat → Int32) (lo hi : Int32) : Int32 × (Nat → Nat → Int32) := if S 2 6 = 2 then (if numH S < lo ∨ hi < numH S then (-1, rfs S 2) else (numH S, S)) else (-1, rfs S 1)
theorem X3_numberWithin (t : TI S) (lo hi : Int32) (hb : gB G ≤ b) (hd : 2 ≤ d) : VM G mX3_numberWithin d 0 0 [.ref (b + 1), .int lo, .int hi] (xE (some (.int (nmW S lo hi).1)) (wH G b tbC (nmW S lo hi).2 h0)) (wH G b tbC S h0) := by
  refine VM_start (ls := [some (.ref (b + 1)), some (.int lo), some (.int hi), none]) rfl ?_
  unfold nmW
  -- %m X3_numberWithin
  refine V_aload_n (pc := 0) (i := 0) dX3_numberWithin_0 rfl rfl ?_
  refine VW_getR (pc := 1) dX3_numberWithin_1 fX3_12 (by first | assumption | rfl) rfl ?_
  refine VW_getI (pc := 4) dX3_numberWithin_4 fX3_39 (by first | assumption | rfl) rfl ?_
  refine V_iconst (pc := 7) (v := 2) dX3_numberWithin_7 (by decide) ?_
  refine V_icmp_eq (pc := 8) 19 dX3_numberWithin_8 rfl (fun c8 => ?_) (fun c8 => ?_)
  · rw [if_pos c8]
    refine V_aload_n (pc := 19) (i := 0) dX3_numberWithin_19 rfl rfl ?_
    refine VW_getR (pc := 20) dX3_numberWithin_20 fX3_12 (by first | assumption | rfl) rfl ?_
    refine V_V0i (pc := 23) dX3_numberWithin_23 cX3_150 (by first | assumption | rfl) (X9_numberHere (d := 1) t (by omega)) (Nat.le_of_ble_eq_true rfl) (by omega) (Nat.le_of_ble_eq_true rfl) ?_
    refine V_istore_n (pc := 26) (i := 3) dX3_numberWithin_26 rfl (by decide) rfl ?_
    refine V_iload_n (pc := 27) (i := 3) dX3_numberWithin_27 rfl rfl ?_
    refine V_iload_n (pc := 28) (i := 1) dX3_numberWithin_28 rfl rfl ?_
    refine V_icmp_lt (pc := 29) 37 dX3_numberWithin_29 rfl (fun c29 => ?_) (fun c29 => ?_)
    · rw [if_pos (by first | exact Or.inl c29 | exact Or.inr (Int32.not_le.mp c34))]
      refine V_aload_n (pc := 37) (i := 0) dX3_numberWithin_37 rfl rfl ?_
      refine V_iconst (pc := 38) (v := 2) dX3_numberWithin_38 (by decide) ?_
      refine V_V1i (pc := 39) dX3_numberWithin_39 cX3_79 (by first | assumption | rfl) (X3_refuse (d := 0) _ hb) (Nat.le_of_ble_eq_true rfl) (by omega) (Nat.le_of_ble_eq_true rfl) ?_
      refine V_pop (pc := 42) dX3_numberWithin_42 rfl ?_
      refine V_iconst (pc := 43) (v := -1) dX3_numberWithin_43 (by decide) ?_
      exact VE_iret (pc := 44) dX3_numberWithin_44 rfl rfl rfl
    · refine V_iload_n (pc := 32) (i := 3) dX3_numberWithin_32 rfl rfl ?_
      refine V_iload_n (pc := 33) (i := 2) dX3_numberWithin_33 rfl rfl ?_
      refine V_icmp_le (pc := 34) 45 dX3_numberWithin_34 rfl (fun c34 => ?_) (fun c34 => ?_)
      · rw [if_neg (fun q => q.elim c29 (Int32.not_lt.mpr c34))]
        refine V_iload_n (pc := 45) (i := 3) dX3_numberWithin_45 rfl rfl ?_
        exact VE_iret (pc := 46) dX3_numberWithin_46 rfl rfl rfl
      · rw [if_pos (by first | exact Or.inl c29 | exact Or.inr (Int32.not_le.mp c34))]
        refine V_aload_n (pc := 37) (i := 0) dX3_numberWithin_37 rfl rfl ?_
        refine V_iconst (pc := 38) (v := 2) dX3_numberWithin_38 (by decide) ?_
        refine V_V1i (pc := 39) dX3_numberWithin_39 cX3_79 (by first | assumption | rfl) (X3_refuse (d := 0) _ hb) (Nat.le_of_ble_eq_true rfl) (by omega) (Nat.le_of_ble_eq_true rfl) ?_
        refine V_pop (pc := 42) dX3_numberWithin_42 rfl ?_
        refine V_iconst (pc := 43) (v := -1) dX3_numberWithin_43 (by decide) ?_
        exact VE_iret (pc := 44) dX3_numberWithin_44 rfl rfl rfl
  · rw [if_neg c8]
    refine V_aload_n (pc := 11) (i := 0) dX3_numberWithin_11 rfl rfl ?_
    refine V_iconst (pc := 12) (v := 1) dX3_numberWithin_12 (by decide) ?_
    refine V_V1i (pc := 13) dX3_numberWithin_13 cX3_79 (by first | assumption | rfl) (X3_refuse (d := 0) _ hb) (Nat.le_of_ble_eq_true rfl) (by omega) (Nat.le_of_ble_eq_true rfl) ?_
    refine V_pop (pc := 16) dX3_numberWithin_16 rfl ?_
    refine V_iconst (pc := 17) (v := -1) dX3_numberWithin_17 (by decide) ?_
    exact VE_iret (pc := 18) dX3_numberWithin_18 rfl rfl rfl
def tkW (S : Nat → Nat → Int32) (lo hi : Int32) : Int32 × (Nat → Nat → Int32) := if (nmW S lo hi).1 = -1 then nmW S lo hi else ((nmW S lo hi).1, adv (nmW S lo hi).2)
theorem nmW_off {lo hi : Int32} {j : Nat} (h : j ≠ 1) : (nmW S lo hi).2 j = S j := by
  unfold nmW
  split
  · split
    · exact rfs_off h
    · rfl
  · exact rfs_off h
theorem nmW_1 {lo hi : Int32} : (nmW S lo hi).2 1 1 = S 1 1 := by
  unfold nmW
  split
  · split
    · show rfs S 2 1 1 = _
      exact rfs_1
    · rfl
  · show rfs S 1 1 1 = _
    exact rfs_1
theorem nmW_v {lo hi : Int32} : (nmW S lo hi).1 = -1 ∨ ((nmW S lo hi).2 = S ∧ (nmW S lo hi).1 = numH S ∧ ¬ (nmW S lo hi).1 < lo ∧ ¬ hi < (nmW S lo hi).1) := by
  unfold nmW
  split
  · split
    · exact Or.inl rfl
    · rename_i h
      exact Or.inr ⟨rfl, rfl, fun q => h (Or.inl q), fun q => h (Or.inr q)⟩
  · exact Or.inl rfl
theorem X3_takeWithin (t : TI S) (lo hi : Int32) (hb : gB G ≤ b) (hd : 6 ≤ d) : VM G mX3_takeWithin d 0 0 [.ref (b + 1), .int lo, .int hi] (xE (some (.int (tkW S lo hi).1)) (wH G b tbC (tkW S lo hi).2 h0)) (wH G b tbC S h0) := by
  refine VM_start (ls := [some (.ref (b + 1)), some (.int lo), some (.int hi), none]) rfl ?_
  unfold tkW
  -- %m X3_takeWithin
  refine V_aload_n (pc := 0) (i := 0) dX3_takeWithin_0 rfl rfl ?_
  refine V_iload_n (pc := 1) (i := 1) dX3_takeWithin_1 rfl rfl ?_
  refine V_iload_n (pc := 2) (i := 2) dX3_takeWithin_2 rfl rfl ?_
  refine V_V2i (pc := 3) dX3_takeWithin_3 cX3_86 (by first | assumption | rfl) (X3_numberWithin (d := 2) t _ _ hb (by omega)) (Nat.le_of_ble_eq_true rfl) (by omega) (Nat.le_of_ble_eq_true rfl) ?_
  refine V_istore_n (pc := 6) (i := 3) dX3_takeWithin_6 rfl (by decide) rfl ?_
  refine V_iload_n (pc := 7) (i := 3) dX3_takeWithin_7 rfl rfl ?_
  refine V_iconst (pc := 8) (v := -1) dX3_takeWithin_8 (by decide) ?_
  refine V_icmp_eq (pc := 9) 19 dX3_takeWithin_9 rfl (fun c9 => ?_) (fun c9 => ?_)
  · rw [if_pos c9]
    refine V_iload_n (pc := 19) (i := 3) dX3_takeWithin_19 rfl rfl ?_
    exact VE_iret (pc := 20) dX3_takeWithin_20 rfl rfl rfl
  · rw [if_neg c9]
    refine V_aload_n (pc := 12) (i := 0) dX3_takeWithin_12 rfl rfl ?_
    refine VW_getR (pc := 13) dX3_takeWithin_13 fX3_12 (by first | assumption | rfl) rfl ?_
    refine V_V0v (pc := 16) dX3_takeWithin_16 cX3_83 (by first | assumption | rfl) (X9_adv (d := 5) (TI_of t (nmW_off (by decide))) hb (by omega)) (Nat.le_of_ble_eq_true rfl) (by omega) (Nat.le_of_ble_eq_true rfl) ?_
    refine V_iload_n (pc := 19) (i := 3) dX3_takeWithin_19 rfl rfl ?_
    exact VE_iret (pc := 20) dX3_takeWithin_20 rfl rfl rfl
/-- whether something starts here -/
def stS (S : Nat → Nat → Int32) : Bool := decide (S 2 6 = 2) || decide (S 2 6 = 1) || sgn S 40
theorem X3_startsSomething (hd : 1 ≤ d) : VM G mX3_startsSomething d 0 0 [.ref (b + 1)] (xE (some (.int (b2i (stS S)))) (wH G b tbC S h0)) (wH G b tbC S h0) := by
  refine VM_start (ls := [some (.ref (b + 1))]) rfl ?_
  -- %m X3_startsSomething
  refine V_aload_n (pc := 0) (i := 0) dX3_startsSomething_0 rfl rfl ?_
  refine VW_getR (pc := 1) dX3_startsSomething_1 fX3_12 (by first | assumption | rfl) rfl ?_
  refine VW_getI (pc := 4) dX3_startsSomething_4 fX3_39 (by first | assumption | rfl) rfl ?_
  refine V_iconst (pc := 7) (v := 2) dX3_startsSomething_7 (by decide) ?_
  refine V_icmp_eq (pc := 8) 34 dX3_startsSomething_8 rfl (fun c8 => ?_) (fun c8 => ?_)
  · refine V_iconst (pc := 34) (v := 1) dX3_startsSomething_34 (by decide) ?_
    refine V_goto (pc := 35) 39 dX3_startsSomething_35 rfl ?_
    exact VE_zret (pc := 39) dX3_startsSomething_39 rfl (by first | exact Or.inl rfl | exact Or.inr rfl) (by first | (simp [b2i, stS, c8]; done) | (simp [b2i, stS, c8, c19]; done) | (simp [b2i, stS, c8, c19, b2i_0.mp c31]; done) | (simp [b2i, stS, c8, c19, b2i_n0.mp c31]; done)) rfl
  · refine V_aload_n (pc := 11) (i := 0) dX3_startsSomething_11 rfl rfl ?_
    refine VW_getR (pc := 12) dX3_startsSomething_12 fX3_12 (by first | assumption | rfl) rfl ?_
    refine VW_getI (pc := 15) dX3_startsSomething_15 fX3_39 (by first | assumption | rfl) rfl ?_
    refine V_iconst (pc := 18) (v := 1) dX3_startsSomething_18 (by decide) ?_
    refine V_icmp_eq (pc := 19) 34 dX3_startsSomething_19 rfl (fun c19 => ?_) (fun c19 => ?_)
    · refine V_iconst (pc := 34) (v := 1) dX3_startsSomething_34 (by decide) ?_
      refine V_goto (pc := 35) 39 dX3_startsSomething_35 rfl ?_
      exact VE_zret (pc := 39) dX3_startsSomething_39 rfl (by first | exact Or.inl rfl | exact Or.inr rfl) (by first | (simp [b2i, stS, c8]; done) | (simp [b2i, stS, c8, c19]; done) | (simp [b2i, stS, c8, c19, b2i_0.mp c31]; done) | (simp [b2i, stS, c8, c19, b2i_n0.mp c31]; done)) rfl
    · refine V_aload_n (pc := 22) (i := 0) dX3_startsSomething_22 rfl rfl ?_
      refine VW_getR (pc := 23) dX3_startsSomething_23 fX3_12 (by first | assumption | rfl) rfl ?_
      refine V_bipush (pc := 26) (v := 40) dX3_startsSomething_26 (by decide) ?_
      refine V_V1i (pc := 28) dX3_startsSomething_28 cX3_97 (by first | assumption | rfl) (X9_signIs (d := 0) _) (Nat.le_of_ble_eq_true rfl) (by omega) (Nat.le_of_ble_eq_true rfl) ?_
      refine V_if_eq (pc := 31) 38 dX3_startsSomething_31 rfl (fun c31 => ?_) (fun c31 => ?_)
      · refine V_iconst (pc := 38) (v := 0) dX3_startsSomething_38 (by decide) ?_
        exact VE_zret (pc := 39) dX3_startsSomething_39 rfl (by first | exact Or.inl rfl | exact Or.inr rfl) (by first | (simp [b2i, stS, c8]; done) | (simp [b2i, stS, c8, c19]; done) | (simp [b2i, stS, c8, c19, b2i_0.mp c31]; done) | (simp [b2i, stS, c8, c19, b2i_n0.mp c31]; done)) rfl
      · refine V_iconst (pc := 34) (v := 1) dX3_startsSomething_34 (by decide) ?_
        refine V_goto (pc := 35) 39 dX3_startsSomething_35 rfl ?_
        exact VE_zret (pc := 39) dX3_startsSomething_39 rfl (by first | exact Or.inl rfl | exact Or.inr rfl) (by first | (simp [b2i, stS, c8]; done) | (simp [b2i, stS, c8, c19]; done) | (simp [b2i, stS, c8, c19, b2i_0.mp c31]; done) | (simp [b2i, stS, c8, c19, b2i_n0.mp c31]; done)) rfl
/-- the NOTS that stand side by side -/
def ntF : Nat → Nat → (Nat → Nat → Int32) → Int32 × (Nat → Nat → Int32)
  | 0, k, S => if wrd S lNot then (-1, rfs S 2) else (nI k, S)
  | m + 1, k, S => if wrd S lNot then ntF m (k + 1) (adv S) else (nI k, S)
theorem X3_takeNots (t : TI S) (hb : gB G ≤ b) (hd : 6 ≤ d) : VM G mX3_takeNots d 0 0 [.ref (b + 1)] (xE (some (.int (ntF 6 0 S).1)) (wH G b tbC (ntF 6 0 S).2 h0)) (wH G b tbC S h0) := by
  refine VM_start (ls := [some (.ref (b + 1)), none]) rfl ?_
  -- %m X3_takeNots
  refine V_iconst (pc := 0) (v := 0) dX3_takeNots_0 (by decide) ?_
  refine V_istore_n (pc := 1) (i := 1) dX3_takeNots_1 rfl (by decide) rfl ?_
  have fin : ∀ (k : Nat) (S : Nat → Nat → Int32), TI S → V G mX3_takeNots d 0 0 (xE (some (.int (if wrd S lNot then (-1, rfs S 2) else (nI k, S)).1)) (wH G b tbC (if wrd S lNot then (-1, rfs S 2) else (nI k, S)).2 h0)) 33 [some (.ref (b + 1)), some (.int (nI k))] [] (wH G b tbC S h0) := by
    intro k S t
    refine V_aload_n (pc := 33) (i := 0) dX3_takeNots_33 rfl rfl ?_
    refine VW_getR (pc := 34) dX3_takeNots_34 fX3_12 (by first | assumption | rfl) rfl ?_
    refine V_ldcS (pc := 37) (i := 15) dX3_takeNots_37 rfl ?_
    refine V_V1i (pc := 39) dX3_takeNots_39 cX3_49 (by first | assumption | rfl) (X9_word lNot (d := 4) rfl t (by omega)) (Nat.le_of_ble_eq_true rfl) (by omega) (Nat.le_of_ble_eq_true rfl) ?_
    refine V_if_eq (pc := 42) 53 dX3_takeNots_42 rfl (fun c42 => ?_) (fun c42 => ?_)
    · rw [if_neg (by rw [b2i_0.mp c42]; decide)]
      refine V_iload_n (pc := 53) (i := 1) dX3_takeNots_53 rfl rfl ?_
      exact VE_iret (pc := 54) dX3_takeNots_54 rfl rfl rfl
    · rw [if_pos (b2i_n0.mp c42)]
      refine V_aload_n (pc := 45) (i := 0) dX3_takeNots_45 rfl rfl ?_
      refine V_iconst (pc := 46) (v := 2) dX3_takeNots_46 (by decide) ?_
      refine V_V1i (pc := 47) dX3_takeNots_47 cX3_79 (by first | assumption | rfl) (X3_refuse (d := 0) _ hb) (Nat.le_of_ble_eq_true rfl) (by omega) (Nat.le_of_ble_eq_true rfl) ?_
      refine V_pop (pc := 50) dX3_takeNots_50 rfl ?_
      refine V_iconst (pc := 51) (v := -1) dX3_takeNots_51 (by decide) ?_
      exact VE_iret (pc := 52) dX3_takeNots_52 rfl rfl rfl
  have loop : ∀ (m k : Nat) (S : Nat → Nat → Int32), m + k = 6 → TI S → V G mX3_takeNots d 0 0 (xE (some (.int (ntF m k S).1)) (wH G b tbC (ntF m k S).2 h0)) 2 [some (.ref (b + 1)), some (.int (nI k))] [] (wH G b tbC S h0) := by
    intro m
    induction m with
    | zero =>
      intro k S hm t
      rw [ntF]
      refine V_iload_n (pc := 2) (i := 1) dX3_takeNots_2 rfl rfl ?_
      refine V_bipush (pc := 3) (v := 6) dX3_takeNots_3 (by decide) ?_
      refine V_icmp_ge (pc := 5) 33 dX3_takeNots_5 rfl (fun c => fin k S t) (fun c => absurd (by rw [show k = 6 by omega]; decide) c)
    | succ m ih =>
      intro k S hm t
      rw [ntF]
      refine V_iload_n (pc := 2) (i := 1) dX3_takeNots_2 rfl rfl ?_
      refine V_bipush (pc := 3) (v := 6) dX3_takeNots_3 (by decide) ?_
      refine V_icmp_ge (pc := 5) 33 dX3_takeNots_5 rfl (fun c => absurd c (nI_ge (b := 6) (by omega) (by decide))) (fun c => ?_)
      refine V_aload_n (pc := 8) (i := 0) dX3_takeNots_8 rfl rfl ?_
      refine VW_getR (pc := 9) dX3_takeNots_9 fX3_12 (by first | assumption | rfl) rfl ?_
      refine V_ldcS (pc := 12) (i := 15) dX3_takeNots_12 rfl ?_
      refine V_V1i (pc := 14) dX3_takeNots_14 cX3_49 (by first | assumption | rfl) (X9_word lNot (d := 4) rfl t (by omega)) (Nat.le_of_ble_eq_true rfl) (by omega) (Nat.le_of_ble_eq_true rfl) ?_
      refine V_if_eq (pc := 17) 33 dX3_takeNots_17 rfl (fun c17 => ?_) (fun c17 => ?_)
      · have e := b2i_0.mp c17
        have f := fin k S t
        rw [if_neg (by rw [e]; decide)] at f
        rw [if_neg (by rw [e]; decide)]
        exact f
      · rw [if_pos (b2i_n0.mp c17)]
        refine V_iinc (pc := 20) dX3_takeNots_20 (by decide) rfl rfl (iincN (n := 1) (by decide)) ?_
        refine V_aload_n (pc := 23) (i := 0) dX3_takeNots_23 rfl rfl ?_
        refine VW_getR (pc := 24) dX3_takeNots_24 fX3_12 (by first | assumption | rfl) rfl ?_
        refine V_V0v (pc := 27) dX3_takeNots_27 cX3_83 (by first | assumption | rfl) (X9_adv (d := 5) t hb (by omega)) (Nat.le_of_ble_eq_true rfl) (by omega) (Nat.le_of_ble_eq_true rfl) ?_
        refine V_goto (pc := 30) 2 dX3_takeNots_30 rfl ?_
        exact ih (k + 1) _ (by omega) (TI_adv t).1
  exact loop 6 0 S rfl t
def shS (S : Nat → Nat → Int32) (c1 o1 c2 o2 : Int32) : Int32 := if sgn S c1 then o1 else if sgn S c2 then o2 else -1
theorem X3_signHere (c1 o1 c2 o2 : Int32) (hd : 1 ≤ d) : VM G mX3_signHere d 0 0 [.ref (b + 1), .int c1, .int o1, .int c2, .int o2] (xE (some (.int (shS S c1 o1 c2 o2))) (wH G b tbC S h0)) (wH G b tbC S h0) := by
  refine VM_start (ls := [some (.ref (b + 1)), some (.int c1), some (.int o1), some (.int c2), some (.int o2)]) rfl ?_
  unfold shS
  -- %m X3_signHere
  refine V_aload_n (pc := 0) (i := 0) dX3_signHere_0 rfl rfl ?_
  refine VW_getR (pc := 1) dX3_signHere_1 fX3_12 (by first | assumption | rfl) rfl ?_
  refine V_iload_n (pc := 4) (i := 1) dX3_signHere_4 rfl rfl ?_
  refine V_V1i (pc := 5) dX3_signHere_5 cX3_97 (by first | assumption | rfl) (X9_signIs (d := 0) _) (Nat.le_of_ble_eq_true rfl) (by omega) (Nat.le_of_ble_eq_true rfl) ?_
  refine V_if_eq (pc := 8) 13 dX3_signHere_8 rfl (fun c8 => ?_) (fun c8 => ?_)
  · rw [if_neg (by rw [b2i_0.mp c8]; decide)]
    refine V_aload_n (pc := 13) (i := 0) dX3_signHere_13 rfl rfl ?_
    refine VW_getR (pc := 14) dX3_signHere_14 fX3_12 (by first | assumption | rfl) rfl ?_
    refine V_iload_n (pc := 17) (i := 3) dX3_signHere_17 rfl rfl ?_
    refine V_V1i (pc := 18) dX3_signHere_18 cX3_97 (by first | assumption | rfl) (X9_signIs (d := 0) _) (Nat.le_of_ble_eq_true rfl) (by omega) (Nat.le_of_ble_eq_true rfl) ?_
    refine V_if_eq (pc := 21) 29 dX3_signHere_21 rfl (fun c21 => ?_) (fun c21 => ?_)
    · rw [if_neg (by rw [b2i_0.mp c21]; decide)]
      refine V_iconst (pc := 29) (v := -1) dX3_signHere_29 (by decide) ?_
      exact VE_iret (pc := 30) dX3_signHere_30 rfl rfl rfl
    · rw [if_pos (b2i_n0.mp c21)]
      refine V_iload (pc := 24) dX3_signHere_24 rfl ?_
      refine V_goto (pc := 26) 30 dX3_signHere_26 rfl ?_
      exact VE_iret (pc := 30) dX3_signHere_30 rfl rfl rfl
  · rw [if_pos (b2i_n0.mp c8)]
    refine V_iload_n (pc := 11) (i := 2) dX3_signHere_11 rfl rfl ?_
    exact VE_iret (pc := 12) dX3_signHere_12 rfl rfl rfl
/-- the operator of a level that stands here -/
def opH (S : Nat → Nat → Int32) : Nat → Int32
  | 0 => if wrd S lOr then 10008 else -1
  | 1 => if wrd S lAnd then 10009 else -1
  | 2 => shS S 60 10010 61 10011
  | 3 => shS S 43 10012 45 10013
  | _ => shS S 42 10014 47 10015
theorem X3_operatorHere (t : TI S) (lv : Nat) (h5 : lv < 5) (hd : 5 ≤ d) : VM G mX3_operatorHere d 0 0 [.ref (b + 1), .int (nI lv)] (xE (some (.int (opH S lv))) (wH G b tbC S h0)) (wH G b tbC S h0) := by
  refine VM_start (ls := [some (.ref (b + 1)), some (.int (nI lv))]) rfl ?_
  -- %m X3_operatorHere
  refine V_iload_n (pc := 0) (i := 1) dX3_operatorHere_0 rfl rfl ?_
  rcases (show lv = 0 ∨ lv = 1 ∨ lv = 2 ∨ lv = 3 ∨ lv = 4 by omega) with e | e | e | e | e
  · subst e
    show V G mX3_operatorHere d 0 0 _ 1 _ [.int 0] _
    rw [opH]
    refine V_tableIn (pc := 1) (off := 31) 32 dX3_operatorHere_1 (by decide) (by decide) (by decide) rfl ?_
    refine V_aload_n (pc := 32) (i := 0) dX3_operatorHere_32 rfl rfl ?_
    refine VW_getR (pc := 33) dX3_operatorHere_33 fX3_12 (by first | assumption | rfl) rfl ?_
    refine V_ldcS (pc := 36) (i := 16) dX3_operatorHere_36 rfl ?_
    refine V_V1i (pc := 38) dX3_operatorHere_38 cX3_49 (by first | assumption | rfl) (X9_word lOr (d := 4) rfl t (by omega)) (Nat.le_of_ble_eq_true rfl) (by omega) (Nat.le_of_ble_eq_true rfl) ?_
    refine V_if_eq (pc := 41) 50 dX3_operatorHere_41 rfl (fun c41 => ?_) (fun c41 => ?_)
    · rw [if_neg (by rw [b2i_0.mp c41]; decide)]
      refine V_iconst (pc := 50) (v := -1) dX3_operatorHere_50 (by decide) ?_
      exact VE_iret (pc := 51) dX3_operatorHere_51 rfl rfl rfl
    · rw [if_pos (b2i_n0.mp c41)]
      refine V_sipush (pc := 44) (v := 10008) dX3_operatorHere_44 (by decide) ?_
      refine V_goto (pc := 47) 51 dX3_operatorHere_47 rfl ?_
      exact VE_iret (pc := 51) dX3_operatorHere_51 rfl rfl rfl
  · subst e
    show V G mX3_operatorHere d 0 0 _ 1 _ [.int 1] _
    rw [opH]
    refine V_tableIn (pc := 1) (off := 51) 52 dX3_operatorHere_1 (by decide) (by decide) (by decide) rfl ?_
    refine V_aload_n (pc := 52) (i := 0) dX3_operatorHere_52 rfl rfl ?_
    refine VW_getR (pc := 53) dX3_operatorHere_53 fX3_12 (by first | assumption | rfl) rfl ?_
    refine V_ldcS (pc := 56) (i := 17) dX3_operatorHere_56 rfl ?_
    refine V_V1i (pc := 58) dX3_operatorHere_58 cX3_49 (by first | assumption | rfl) (X9_word lAnd (d := 4) rfl t (by omega)) (Nat.le_of_ble_eq_true rfl) (by omega) (Nat.le_of_ble_eq_true rfl) ?_
    refine V_if_eq (pc := 61) 70 dX3_operatorHere_61 rfl (fun c61 => ?_) (fun c61 => ?_)
    · rw [if_neg (by rw [b2i_0.mp c61]; decide)]
      refine V_iconst (pc := 70) (v := -1) dX3_operatorHere_70 (by decide) ?_
      exact VE_iret (pc := 71) dX3_operatorHere_71 rfl rfl rfl
    · rw [if_pos (b2i_n0.mp c61)]
      refine V_sipush (pc := 64) (v := 10009) dX3_operatorHere_64 (by decide) ?_
      refine V_goto (pc := 67) 71 dX3_operatorHere_67 rfl ?_
      exact VE_iret (pc := 71) dX3_operatorHere_71 rfl rfl rfl
  · subst e
    show V G mX3_operatorHere d 0 0 _ 1 _ [.int 2] _
    rw [opH]
    refine V_tableIn (pc := 1) (off := 71) 72 dX3_operatorHere_1 (by decide) (by decide) (by decide) rfl ?_
    refine V_aload_n (pc := 72) (i := 0) dX3_operatorHere_72 rfl rfl ?_
    refine V_bipush (pc := 73) (v := 60) dX3_operatorHere_73 (by decide) ?_
    refine V_sipush (pc := 75) (v := 10010) dX3_operatorHere_75 (by decide) ?_
    refine V_bipush (pc := 78) (v := 61) dX3_operatorHere_78 (by decide) ?_
    refine V_sipush (pc := 80) (v := 10011) dX3_operatorHere_80 (by decide) ?_
    refine V_V4i (pc := 83) dX3_operatorHere_83 cX3_178 (by first | assumption | rfl) (X3_signHere (d := 1) _ _ _ _ (by omega)) (Nat.le_of_ble_eq_true rfl) (by omega) (Nat.le_of_ble_eq_true rfl) ?_
    exact VE_iret (pc := 86) dX3_operatorHere_86 rfl rfl rfl
  · subst e
    show V G mX3_operatorHere d 0 0 _ 1 _ [.int 3] _
    rw [opH]
    refine V_tableIn (pc := 1) (off := 86) 87 dX3_operatorHere_1 (by decide) (by decide) (by decide) rfl ?_
    refine V_aload_n (pc := 87) (i := 0) dX3_operatorHere_87 rfl rfl ?_
    refine V_bipush (pc := 88) (v := 43) dX3_operatorHere_88 (by decide) ?_
    refine V_sipush (pc := 90) (v := 10012) dX3_operatorHere_90 (by decide) ?_
    refine V_bipush (pc := 93) (v := 45) dX3_operatorHere_93 (by decide) ?_
    refine V_sipush (pc := 95) (v := 10013) dX3_operatorHere_95 (by decide) ?_
    refine V_V4i (pc := 98) dX3_operatorHere_98 cX3_178 (by first | assumption | rfl) (X3_signHere (d := 1) _ _ _ _ (by omega)) (Nat.le_of_ble_eq_true rfl) (by omega) (Nat.le_of_ble_eq_true rfl) ?_
    exact VE_iret (pc := 101) dX3_operatorHere_101 rfl rfl rfl
  · subst e
    show V G mX3_operatorHere d 0 0 _ 1 _ [.int 4] _
    refine V_tableOut (pc := 1) 102 dX3_operatorHere_1 (by decide) rfl ?_
    refine V_aload_n (pc := 102) (i := 0) dX3_operatorHere_102 rfl rfl ?_
    refine V_bipush (pc := 103) (v := 42) dX3_operatorHere_103 (by decide) ?_
    refine V_sipush (pc := 105) (v := 10014) dX3_operatorHere_105 (by decide) ?_
    refine V_bipush (pc := 108) (v := 47) dX3_operatorHere_108 (by decide) ?_
    refine V_sipush (pc := 110) (v := 10015) dX3_operatorHere_110 (by decide) ?_
    refine V_V4i (pc := 113) dX3_operatorHere_113 cX3_178 (by first | assumption | rfl) (X3_signHere (d := 1) _ _ _ _ (by omega)) (Nat.le_of_ble_eq_true rfl) (by omega) (Nat.le_of_ble_eq_true rfl) ?_
    exact VE_iret (pc := 116) dX3_operatorHere_116 rfl rfl rfl
def vlH (S : Nat → Nat → Int32) : Int32 := if wrd S lLonging then 10000 else if wrd S lHere then 10001 else if wrd S lThere then 10002 else if wrd S lSpared then 10003 else if wrd S lSunday then 10004 else if wrd S lFlowers then 10005 else if wrd S lLast then 10006 else -1
theorem X3_valueHere (t : TI S) (hd : 5 ≤ d) : VM G mX3_valueHere d 0 0 [.ref (b + 1)] (xE (some (.int (vlH S))) (wH G b tbC S h0)) (wH G b tbC S h0) := by
  refine VM_start (ls := [some (.ref (b + 1))]) rfl ?_
  unfold vlH
  -- %m X3_valueHere
  refine V_aload_n (pc := 0) (i := 0) dX3_valueHere_0 rfl rfl ?_
  refine VW_getR (pc := 1) dX3_valueHere_1 fX3_12 (by first | assumption | rfl) rfl ?_
  refine V_ldcS (pc := 4) (i := 8) dX3_valueHere_4 rfl ?_
  refine V_V1i (pc := 6) dX3_valueHere_6 cX3_49 (by first | assumption | rfl) (X9_word lLonging (d := 4) rfl t (by omega)) (Nat.le_of_ble_eq_true rfl) (by omega) (Nat.le_of_ble_eq_true rfl) ?_
  refine V_if_eq (pc := 9) 16 dX3_valueHere_9 rfl (fun c9 => ?_) (fun c9 => ?_)
  · rw [if_neg (by rw [b2i_0.mp c9]; decide)]
    refine V_aload_n (pc := 16) (i := 0) dX3_valueHere_16 rfl rfl ?_
    refine VW_getR (pc := 17) dX3_valueHere_17 fX3_12 (by first | assumption | rfl) rfl ?_
    refine V_ldcS (pc := 20) (i := 9) dX3_valueHere_20 rfl ?_
    refine V_V1i (pc := 22) dX3_valueHere_22 cX3_49 (by first | assumption | rfl) (X9_word lHere (d := 4) rfl t (by omega)) (Nat.le_of_ble_eq_true rfl) (by omega) (Nat.le_of_ble_eq_true rfl) ?_
    refine V_if_eq (pc := 25) 32 dX3_valueHere_25 rfl (fun c25 => ?_) (fun c25 => ?_)
    · rw [if_neg (by rw [b2i_0.mp c25]; decide)]
      refine V_aload_n (pc := 32) (i := 0) dX3_valueHere_32 rfl rfl ?_
      refine VW_getR (pc := 33) dX3_valueHere_33 fX3_12 (by first | assumption | rfl) rfl ?_
      refine V_ldcS (pc := 36) (i := 10) dX3_valueHere_36 rfl ?_
      refine V_V1i (pc := 38) dX3_valueHere_38 cX3_49 (by first | assumption | rfl) (X9_word lThere (d := 4) rfl t (by omega)) (Nat.le_of_ble_eq_true rfl) (by omega) (Nat.le_of_ble_eq_true rfl) ?_
      refine V_if_eq (pc := 41) 48 dX3_valueHere_41 rfl (fun c41 => ?_) (fun c41 => ?_)
      · rw [if_neg (by rw [b2i_0.mp c41]; decide)]
        refine V_aload_n (pc := 48) (i := 0) dX3_valueHere_48 rfl rfl ?_
        refine VW_getR (pc := 49) dX3_valueHere_49 fX3_12 (by first | assumption | rfl) rfl ?_
        refine V_ldcS (pc := 52) (i := 11) dX3_valueHere_52 rfl ?_
        refine V_V1i (pc := 54) dX3_valueHere_54 cX3_49 (by first | assumption | rfl) (X9_word lSpared (d := 4) rfl t (by omega)) (Nat.le_of_ble_eq_true rfl) (by omega) (Nat.le_of_ble_eq_true rfl) ?_
        refine V_if_eq (pc := 57) 64 dX3_valueHere_57 rfl (fun c57 => ?_) (fun c57 => ?_)
        · rw [if_neg (by rw [b2i_0.mp c57]; decide)]
          refine V_aload_n (pc := 64) (i := 0) dX3_valueHere_64 rfl rfl ?_
          refine VW_getR (pc := 65) dX3_valueHere_65 fX3_12 (by first | assumption | rfl) rfl ?_
          refine V_ldcS (pc := 68) (i := 12) dX3_valueHere_68 rfl ?_
          refine V_V1i (pc := 70) dX3_valueHere_70 cX3_49 (by first | assumption | rfl) (X9_word lSunday (d := 4) rfl t (by omega)) (Nat.le_of_ble_eq_true rfl) (by omega) (Nat.le_of_ble_eq_true rfl) ?_
          refine V_if_eq (pc := 73) 80 dX3_valueHere_73 rfl (fun c73 => ?_) (fun c73 => ?_)
          · rw [if_neg (by rw [b2i_0.mp c73]; decide)]
            refine V_aload_n (pc := 80) (i := 0) dX3_valueHere_80 rfl rfl ?_
            refine VW_getR (pc := 81) dX3_valueHere_81 fX3_12 (by first | assumption | rfl) rfl ?_
            refine V_ldcS (pc := 84) (i := 13) dX3_valueHere_84 rfl ?_
            refine V_V1i (pc := 86) dX3_valueHere_86 cX3_49 (by first | assumption | rfl) (X9_word lFlowers (d := 4) rfl t (by omega)) (Nat.le_of_ble_eq_true rfl) (by omega) (Nat.le_of_ble_eq_true rfl) ?_
            refine V_if_eq (pc := 89) 96 dX3_valueHere_89 rfl (fun c89 => ?_) (fun c89 => ?_)
            · rw [if_neg (by rw [b2i_0.mp c89]; decide)]
              refine V_aload_n (pc := 96) (i := 0) dX3_valueHere_96 rfl rfl ?_
              refine VW_getR (pc := 97) dX3_valueHere_97 fX3_12 (by first | assumption | rfl) rfl ?_
              refine V_ldcS (pc := 100) (i := 14) dX3_valueHere_100 rfl ?_
              refine V_V1i (pc := 102) dX3_valueHere_102 cX3_49 (by first | assumption | rfl) (X9_word lLast (d := 4) rfl t (by omega)) (Nat.le_of_ble_eq_true rfl) (by omega) (Nat.le_of_ble_eq_true rfl) ?_
              refine V_if_eq (pc := 105) 114 dX3_valueHere_105 rfl (fun c105 => ?_) (fun c105 => ?_)
              · rw [if_neg (by rw [b2i_0.mp c105]; decide)]
                refine V_iconst (pc := 114) (v := -1) dX3_valueHere_114 (by decide) ?_
                exact VE_iret (pc := 115) dX3_valueHere_115 rfl rfl rfl
              · rw [if_pos (b2i_n0.mp c105)]
                refine V_sipush (pc := 108) (v := 10006) dX3_valueHere_108 (by decide) ?_
                refine V_goto (pc := 111) 115 dX3_valueHere_111 rfl ?_
                exact VE_iret (pc := 115) dX3_valueHere_115 rfl rfl rfl
            · rw [if_pos (b2i_n0.mp c89)]
              refine V_sipush (pc := 92) (v := 10005) dX3_valueHere_92 (by decide) ?_
              exact VE_iret (pc := 95) dX3_valueHere_95 rfl rfl rfl
          · rw [if_pos (b2i_n0.mp c73)]
            refine V_sipush (pc := 76) (v := 10004) dX3_valueHere_76 (by decide) ?_
            exact VE_iret (pc := 79) dX3_valueHere_79 rfl rfl rfl
        · rw [if_pos (b2i_n0.mp c57)]
          refine V_sipush (pc := 60) (v := 10003) dX3_valueHere_60 (by decide) ?_
          exact VE_iret (pc := 63) dX3_valueHere_63 rfl rfl rfl
      · rw [if_pos (b2i_n0.mp c41)]
        refine V_sipush (pc := 44) (v := 10002) dX3_valueHere_44 (by decide) ?_
        exact VE_iret (pc := 47) dX3_valueHere_47 rfl rfl rfl
    · rw [if_pos (b2i_n0.mp c25)]
      refine V_sipush (pc := 28) (v := 10001) dX3_valueHere_28 (by decide) ?_
      exact VE_iret (pc := 31) dX3_valueHere_31 rfl rfl rfl
  · rw [if_pos (b2i_n0.mp c9)]
    refine V_sipush (pc := 12) (v := 10000) dX3_valueHere_12 (by decide) ?_
    exact VE_iret (pc := 15) dX3_valueHere_15 rfl rfl rfl
/-- a code is added to the draft's rule -/
def raS (S : Nat → Nat → Int32) (t : Nat) (x : Int32) : Nat → Nat → Int32 := if (S (t + 6) 2).toNatClampNeg < 700 then up2 (up2 S (t + 7) (S (t + 6) 2).toNatClampNeg x) (t + 6) 2 (S (t + 6) 2 + 1) else S
/-- the reader within an EXPR: the TOKEN, the draft, its rule -/
def XI (Z S : Nat → Nat → Int32) (t : Nat) : Prop := TI S ∧ shC (S 1 1) = t ∧ (∃ r : Nat, r ≤ 700 ∧ S (t + 6) 2 = nI r) ∧ ∀ k, k ≠ 1 → k ≠ 2 → k ≠ t + 6 → k ≠ t + 7 → S k = Z k
theorem XI_or {t : Nat} (x : XI Z S t) : t = 4 ∨ t = 44 := by
  have := shC_or (S 1 1)
  rw [x.2.1] at this
  exact this
theorem XI_of {t : Nat} (x : XI Z S t) (h1 : TI T) (h2 : T 1 1 = S 1 1) (h3 : T (t + 6) 2 = S (t + 6) 2) (h4 : ∀ k, k ≠ 1 → k ≠ 2 → k ≠ t + 6 → k ≠ t + 7 → T k = S k) : XI Z T t := ⟨h1, by rw [h2]; exact x.2.1, by rw [h3]; exact x.2.2.1, fun k k1 k2 k3 k4 => (h4 k k1 k2 k3 k4).trans (x.2.2.2 k k1 k2 k3 k4)⟩
theorem XI_adv {t : Nat} (x : XI Z S t) : XI Z (adv S) t := by
  have := XI_or x
  exact XI_of x (TI_adv x.1).1 (by rw [adv_off (by decide)]) (by rw [adv_off (by omega)]) (fun k _ k2 _ _ => adv_off k2)
theorem XI_rfs {t : Nat} {k : Int32} (x : XI Z S t) : XI Z (rfs S k) t := by
  have := XI_or x
  exact XI_of x (TI_of x.1 (rfs_off (by decide))) rfs_1 (by rw [rfs_off (by omega)]) (fun k k1 _ _ _ => rfs_off k1)
theorem XI_raS {t : Nat} {c : Int32} (x : XI Z S t) : XI Z (raS S t c) t := by
  have ht := XI_or x
  obtain ⟨x1, x2, ⟨r, hr, x3⟩, x4⟩ := x
  unfold raS
  rw [x3, nI_clamp (by omega)]
  split
  · refine ⟨TI_of x1 (by rw [up2_row (by omega), up2_row (by omega)]), by rw [up2_row (by omega), up2_row (by omega)]; exact x2, ⟨r + 1, by omega, by rw [up2_same, nI_1]⟩, fun k k1 k2 k3 k4 => by rw [up2_row k3, up2_row k4]; exact x4 k k1 k2 k3 k4⟩
  · exact ⟨x1, x2, ⟨r, hr, x3⟩, x4⟩
theorem X4_add_full {tb : xTb} {k : Nat} (hs : RuleAt tb k) (hn : S k 2 = nI 700) (x : Int32) : VM G mX4_add d 0 0 [.ref (b + k), .int x] (xE none (wH G b tb S h0)) (wH G b tb S h0) := by
  obtain ⟨k0, k1, k2⟩ := hs
  refine VM_start (ls := [some (.ref (b + k)), some (.int x)]) rfl ?_
  -- %m X4_add
  refine V_aload_n (pc := 0) (i := 0) dX4_add_0 rfl rfl ?_
  refine VW_getI (pc := 1) dX4_add_1 fX4_18 (by first | assumption | rfl) rfl ?_
  refine V_aload_n (pc := 4) (i := 0) dX4_add_4 rfl rfl ?_
  refine VW_getR (pc := 5) dX4_add_5 fX4_9 (by first | assumption | rfl) rfl ?_
  refine VW_alen (pc := 8) dX4_add_8 (by first | assumption | rfl) (by decide) rfl ?_
  refine V_icmp_ge (pc := 9) 32 dX4_add_9 rfl (fun c9 => ?_) (fun c9 => ?_)
  · exact VE_vret (pc := 32) dX4_add_32 rfl rfl
  · exact absurd (by rw [hn]; decide) c9
theorem X4_ra {t : Nat} (x : XI Z S t) (c : Int32) (hb : gB G ≤ b) : VM G mX4_add d 0 0 [.ref (b + (t + 6)), .int c] (xE none (wH G b tbC (raS S t c) h0)) (wH G b tbC S h0) := by
  have hS := tbC_shore (S 1 1)
  rw [x.2.1] at hS
  obtain ⟨a0, a1, a2, a3, -⟩ := id hS
  obtain ⟨x1, x2, ⟨r, hr, x3⟩, x4⟩ := x
  unfold raS
  rw [x3, nI_clamp (by omega)]
  by_cases e : r < 700
  · rw [if_pos e]
    exact X4_add a3 x3 e hb c
  · rw [if_neg e]
    exact X4_add_full a3 (by rw [x3, show r = 700 by omega]) c
def ppF (S : Nat → Nat → Int32) (t : Nat) (c : Int32) : Bool × (Nat → Nat → Int32) := if c = -1 then (false, S) else (true, adv (raS S t c))
theorem X3_putPart {t : Nat} (x : XI Z S t) (c : Int32) (hb : gB G ≤ b) (hd : 6 ≤ d) : VM G mX3_putPart d 0 0 [.ref (b + 1), .int c] (xE (some (.int (b2i (ppF S t c).1))) (wH G b tbC (ppF S t c).2 h0)) (wH G b tbC S h0) := by
  have hS := tbC_shore (S 1 1)
  rw [x.2.1] at hS
  obtain ⟨a0, a1, a2, a3, -⟩ := id hS
  obtain ⟨r0, r1, r2⟩ := id a3
  have hsh := x.2.1
  refine VM_start (ls := [some (.ref (b + 1)), some (.int c)]) rfl ?_
  unfold ppF
  -- %m X3_putPart
  refine V_iload_n (pc := 0) (i := 1) dX3_putPart_0 rfl rfl ?_
  refine V_iconst (pc := 1) (v := -1) dX3_putPart_1 (by decide) ?_
  refine V_icmp_ne (pc := 2) 7 dX3_putPart_2 rfl (fun c2 => ?_) (fun c2 => ?_)
  · rw [if_neg c2]
    refine V_aload_n (pc := 7) (i := 0) dX3_putPart_7 rfl rfl ?_
    refine VW_getWs (pc := 8) dX3_putPart_8 fX3_21 (by first | assumption | rfl) rfl (by first | assumption | (simp (disch := omega) only [up2_row, up2_col, up2_same, upR_row]; assumption)) ?_
    refine VW_getR (pc := 11) dX3_putPart_11 fX3_138 (by first | assumption | rfl) rfl ?_
    refine V_iload_n (pc := 14) (i := 1) dX3_putPart_14 rfl rfl ?_
    refine V_V1v (pc := 15) dX3_putPart_15 cX3_170 (by first | assumption | rfl) (X4_ra (d := 0) x _ hb) (Nat.le_of_ble_eq_true rfl) (by omega) (Nat.le_of_ble_eq_true rfl) ?_
    refine V_aload_n (pc := 18) (i := 0) dX3_putPart_18 rfl rfl ?_
    refine VW_getR (pc := 19) dX3_putPart_19 fX3_12 (by first | assumption | rfl) rfl ?_
    refine V_V0v (pc := 22) dX3_putPart_22 cX3_83 (by first | assumption | rfl) (X9_adv (d := 5) (XI_raS x).1 hb (by omega)) (Nat.le_of_ble_eq_true rfl) (by omega) (Nat.le_of_ble_eq_true rfl) ?_
    refine V_iconst (pc := 25) (v := 1) dX3_putPart_25 (by decide) ?_
    exact VE_zret (pc := 26) dX3_putPart_26 rfl (Or.inr rfl) rfl rfl
  · rw [if_pos c2]
    refine V_iconst (pc := 5) (v := 0) dX3_putPart_5 (by decide) ?_
    exact VE_zret (pc := 6) dX3_putPart_6 rfl (Or.inl rfl) rfl rfl
end Rd
