/-! ===== Walk: SUNDAYS on a state of its own (cells 57 to 67) ===== -/
section Wk2
variable {G : xG} {d bc bs : Nat} {b : Nat} {S : Nat → Nat → Int32} {h0 h : xH}
theorem cF_up {ki n k' j : Nat} {x dn : Int32} (h1 : k' < ki ∨ ki + 3 < k') : cF (up2 S k' j x) ki n dn = cF S ki n dn := by
  funext t
  simp (disch := omega) only [cF, up2_row]
theorem cF_upR {ki n k' : Nat} {r : Nat → Int32} {dn : Int32} (h1 : k' < ki ∨ ki + 3 < k') : cF (upR S k' r) ki n dn = cF S ki n dn := by
  funext t
  simp (disch := omega) only [cF, upR_row]
theorem cThere_up {s k n q k' j : Nat} {x : Int32} (h1 : k' < s ∨ s + 12 < k') (h2 : k' < k ∨ k + 4 < k') : cThere (up2 S k' j x) s k n q = cThere S s k n q := by
  simp (disch := omega) only [cThere, cF_up, up2_row]
theorem cSpare_up {s k n q k' j : Nat} {x : Int32} (h1 : k' < s ∨ s + 12 < k') (h2 : k' < k ∨ k + 4 < k') : cSpare (up2 S k' j x) s k n q = cSpare S s k n q := by
  simp (disch := omega) only [cSpare, cF_up, up2_row]
/-- what the banks hold for q is reckoned -/
def wkSettle (S : Nat → Nat → Int32) (s n q : Nat) : Nat → Nat → Int32 := up2 (up2 (up2 (up2 S 63 q (cThere S s 58 n q)) 64 q (sumB (S (s + 1)) (S 59 q) 10 0 0)) 65 q (sumB (S (s + 1)) (cThere S s 58 n q) 10 0 0)) 66 q (sumB (S (s + 1)) (cSpare S s 58 n q) 10 0 0)
theorem X10_settle {s n q : Nat} (hsh : shC (S 57 6) = s) (hn : S (s + 2) 4 = nI n) (h12 : n ≤ 12) (hq : q < 8) (hb : gB G ≤ b) (hd : 4 ≤ d) : VM G mX10_settle d 0 0 [.ref (b + 57), .int (nI q)] (xE none (wH G b tbC (wkSettle S s n q) h0)) (wH G b tbC S h0) := by
  have hs := shC_or (S 57 6)
  have hS := tbC_shore (S 57 6)
  rw [hsh] at hs hS
  obtain ⟨a0, a1, -⟩ := id hS
  refine VM_start (ls := [some (.ref (b + 57)), some (.int (nI q))]) rfl ?_
  -- %m X10_settle
  refine V_aload_n (pc := 0) (i := 0) dX10_settle_0 rfl rfl ?_
  refine VW_getR (pc := 1) dX10_settle_1 fX10_18 (by first | assumption | rfl) rfl ?_
  refine V_iload_n (pc := 4) (i := 1) dX10_settle_4 rfl rfl ?_
  refine V_aload_n (pc := 5) (i := 0) dX10_settle_5 rfl rfl ?_
  refine VW_getWs (pc := 6) dX10_settle_6 fX10_40 (by first | assumption | rfl) rfl (by first | assumption | (simp (disch := omega) only [up2_row, up2_col, up2_same, upR_row]; assumption)) ?_
  refine V_aload_n (pc := 9) (i := 0) dX10_settle_9 rfl rfl ?_
  refine VW_getR (pc := 10) dX10_settle_10 fX10_12 (by first | assumption | rfl) rfl ?_
  refine V_iload_n (pc := 13) (i := 1) dX10_settle_13 rfl rfl ?_
  refine V_V2i (pc := 14) dX10_settle_14 cX10_57 (by first | assumption | rfl) (X7_thereOf (d := 3) hS tbC_58 hn h12 hq (by omega)) (Nat.le_of_ble_eq_true rfl) (by omega) (Nat.le_of_ble_eq_true rfl) ?_
  refine VW_iastN (pc := 17) dX10_settle_17 (by first | assumption | rfl) (by assumption) rfl (by omega) (by first | decide | omega) ?_
  refine V_aload_n (pc := 18) (i := 0) dX10_settle_18 rfl rfl ?_
  refine VW_getR (pc := 19) dX10_settle_19 fX10_22 (by first | assumption | rfl) rfl ?_
  refine V_iload_n (pc := 22) (i := 1) dX10_settle_22 rfl rfl ?_
  refine V_aload_n (pc := 23) (i := 0) dX10_settle_23 rfl rfl ?_
  refine VW_getWs (pc := 24) dX10_settle_24 fX10_40 (by first | assumption | rfl) rfl (by first | assumption | (simp (disch := omega) only [up2_row, up2_col, up2_same, upR_row]; assumption)) ?_
  refine V_aload_n (pc := 27) (i := 0) dX10_settle_27 rfl rfl ?_
  refine VW_getR (pc := 28) dX10_settle_28 fX10_12 (by first | assumption | rfl) rfl ?_
  refine VW_getR (pc := 31) dX10_settle_31 fX10_61 (by first | assumption | rfl) rfl ?_
  refine V_iload_n (pc := 34) (i := 1) dX10_settle_34 rfl rfl ?_
  refine VW_ialdN (pc := 35) dX10_settle_35 (by first | assumption | rfl) rfl (by omega) (by first | decide | omega) ?_
  refine V_V1i (pc := 36) dX10_settle_36 cX10_64 (by first | assumption | rfl) (X7_worthOf (d := 1) hS (by omega) _) (Nat.le_of_ble_eq_true rfl) (by omega) (Nat.le_of_ble_eq_true rfl) ?_
  simp (disch := omega) only [up2_row]
  refine VW_iastN (pc := 39) dX10_settle_39 (by first | assumption | rfl) (by assumption) rfl (by omega) (by first | decide | omega) ?_
  refine V_aload_n (pc := 40) (i := 0) dX10_settle_40 rfl rfl ?_
  refine VW_getR (pc := 41) dX10_settle_41 fX10_25 (by first | assumption | rfl) rfl ?_
  refine V_iload_n (pc := 44) (i := 1) dX10_settle_44 rfl rfl ?_
  refine V_aload_n (pc := 45) (i := 0) dX10_settle_45 rfl rfl ?_
  refine VW_getWs (pc := 46) dX10_settle_46 fX10_40 (by first | assumption | rfl) rfl (by first | assumption | (simp (disch := omega) only [up2_row, up2_col, up2_same, upR_row]; assumption)) ?_
  refine V_aload_n (pc := 49) (i := 0) dX10_settle_49 rfl rfl ?_
  refine VW_getR (pc := 50) dX10_settle_50 fX10_18 (by first | assumption | rfl) rfl ?_
  refine V_iload_n (pc := 53) (i := 1) dX10_settle_53 rfl rfl ?_
  refine VW_ialdN (pc := 54) dX10_settle_54 (by first | assumption | rfl) rfl (by omega) (by first | decide | omega) ?_
  refine V_V1i (pc := 55) dX10_settle_55 cX10_64 (by first | assumption | rfl) (X7_worthOf (d := 1) hS (by omega) _) (Nat.le_of_ble_eq_true rfl) (by omega) (Nat.le_of_ble_eq_true rfl) ?_
  simp (disch := omega) only [up2_row, up2_same]
  refine VW_iastN (pc := 58) dX10_settle_58 (by first | assumption | rfl) (by assumption) rfl (by omega) (by first | decide | omega) ?_
  refine V_aload_n (pc := 59) (i := 0) dX10_settle_59 rfl rfl ?_
  refine VW_getR (pc := 60) dX10_settle_60 fX10_28 (by first | assumption | rfl) rfl ?_
  refine V_iload_n (pc := 63) (i := 1) dX10_settle_63 rfl rfl ?_
  refine V_aload_n (pc := 64) (i := 0) dX10_settle_64 rfl rfl ?_
  refine VW_getWs (pc := 65) dX10_settle_65 fX10_40 (by first | assumption | rfl) rfl (by first | assumption | (simp (disch := omega) only [up2_row, up2_col, up2_same, upR_row]; assumption)) ?_
  refine V_aload_n (pc := 68) (i := 0) dX10_settle_68 rfl rfl ?_
  refine VW_getWs (pc := 69) dX10_settle_69 fX10_40 (by first | assumption | rfl) rfl (by first | assumption | (simp (disch := omega) only [up2_row, up2_col, up2_same, upR_row]; assumption)) ?_
  refine V_aload_n (pc := 72) (i := 0) dX10_settle_72 rfl rfl ?_
  refine VW_getR (pc := 73) dX10_settle_73 fX10_12 (by first | assumption | rfl) rfl ?_
  refine V_iload_n (pc := 76) (i := 1) dX10_settle_76 rfl rfl ?_
  refine V_V2i (pc := 77) dX10_settle_77 cX10_68 (by first | assumption | rfl) (X7_sparedBankOf (d := 3) hS tbC_58 (by simp (disch := omega) only [up2_row]; exact hn) h12 hq (by omega)) (Nat.le_of_ble_eq_true rfl) (by omega) (Nat.le_of_ble_eq_true rfl) ?_
  refine V_V1i (pc := 80) dX10_settle_80 cX10_64 (by first | assumption | rfl) (X7_worthOf (d := 1) hS (by omega) _) (Nat.le_of_ble_eq_true rfl) (by omega) (Nat.le_of_ble_eq_true rfl) ?_
  simp (disch := omega) only [up2_row, cSpare_up]
  refine VW_iastN (pc := 83) dX10_settle_83 (by first | assumption | rfl) (by assumption) rfl (by omega) (by first | decide | omega) ?_
  exact VE_vret (pc := 84) dX10_settle_84 rfl rfl
def wkSettles (s n : Nat) : Nat → Nat → (Nat → Nat → Int32) → Nat → Nat → Int32
  | 0, _, S => S
  | m + 1, q, S => wkSettles s n m (q + 1) (wkSettle S s n q)
theorem wkSettle_off {s n q k : Nat} (h : k < 63 ∨ 66 < k) : wkSettle S s n q k = S k := by
  simp (disch := omega) only [wkSettle, up2_row]
def wkBegin (S : Nat → Nat → Int32) (x : Int32) (n pp : Nat) : Nat → Nat → Int32 := wkSettles (shC x) n pp 0 (stCp (up2 (up2 S 57 6 x) 57 7 0) 58 17)
theorem stCp_off {k o k' : Nat} (h : k' < k ∨ k + 4 < k') : stCp S k o k' = S k' := by
  simp (disch := omega) only [stCp, st4, up2_row, upR_row]
theorem X10_begin {x : Int32} {n pp : Nat} (hn : S (shC x + 2) 4 = nI n) (h12 : n ≤ 12) (hp : S (shC x) 7 = nI pp) (h8 : pp ≤ 8) (hb : gB G ≤ b) (hd : 5 ≤ d) : VM G mX10_begin d 0 0 [.ref (b + 57), .ref (b + shC x), .ref (b + 17)] (xE none (wH G b tbC (wkBegin S x n pp) h0)) (wH G b tbC S h0) := by
  have hs := shC_or x
  have hS := tbC_shore x
  generalize hsx : shC x = s at hs hS hn hp
  obtain ⟨a0, a1, -⟩ := id hS
  refine VM_start (ls := [some (.ref (b + 57)), some (.ref (b + s)), some (.ref (b + 17)), none]) rfl ?_
  -- %m X10_begin
  refine V_aload_n (pc := 0) (i := 0) dX10_begin_0 rfl rfl ?_
  refine V_aload_n (pc := 1) (i := 1) dX10_begin_1 rfl rfl ?_
  rw [← hsx]
  refine VW_putW (pc := 2) dX10_begin_2 fX10_40 ftX10 (fpR rfl rfl (tyX10_ok 6 (by decide))) (by first | assumption | rfl) rfl (by assumption) ?_
  refine V_aload_n (pc := 5) (i := 0) dX10_begin_5 rfl rfl ?_
  refine V_iconst (pc := 6) (v := 0) dX10_begin_6 (by decide) ?_
  refine VW_putI (pc := 7) dX10_begin_7 fX10_36 ftX10 (fpI rfl rfl (tyX10_ok 7 (by decide))) (by first | assumption | rfl) rfl (by assumption) ?_
  refine V_aload_n (pc := 10) (i := 0) dX10_begin_10 rfl rfl ?_
  refine VW_getR (pc := 11) dX10_begin_11 fX10_12 (by first | assumption | rfl) rfl ?_
  refine V_aload_n (pc := 14) (i := 2) dX10_begin_14 rfl rfl ?_
  refine V_V1v (pc := 15) dX10_begin_15 cX10_44 (by first | assumption | rfl) (X8_copyFrom (d := 1) tbC_58 tbC_17 (by decide) hb (by omega)) (Nat.le_of_ble_eq_true rfl) (by omega) (Nat.le_of_ble_eq_true rfl) ?_
  refine V_iconst (pc := 18) (v := 0) dX10_begin_18 (by decide) ?_
  refine V_istore_n (pc := 19) (i := 3) dX10_begin_19 rfl (by decide) rfl ?_
  rw [hsx]
  have loop : ∀ (m q : Nat) (S : Nat → Nat → Int32), m + q = pp → shC (S 57 6) = s → S (s + 2) 4 = nI n → S s 7 = nI pp → V G mX10_begin d 0 0 (xE none (wH G b tbC (wkSettles s n m q S) h0)) 20 [some (.ref (b + 57)), some (.ref (b + s)), some (.ref (b + 17)), some (.int (nI q))] [] (wH G b tbC S h0) := by
    intro m
    induction m with
    | zero =>
      intro q S hm hsh hn hp
      refine V_iload_n (pc := 20) (i := 3) dX10_begin_20 rfl rfl ?_
      refine V_aload_n (pc := 21) (i := 0) dX10_begin_21 rfl rfl ?_
      refine VW_getWs (pc := 22) dX10_begin_22 fX10_40 (by first | assumption | rfl) rfl (by first | assumption | (simp (disch := omega) only [up2_row, up2_col, up2_same, upR_row]; assumption)) ?_
      refine VW_getI (pc := 25) dX10_begin_25 fX10_48 (by first | assumption | rfl) rfl ?_
      refine V_icmp_ge (pc := 28) 42 dX10_begin_28 rfl (fun c28 => ?_) (fun c28 => ?_)
      · exact VE_vret (pc := 42) dX10_begin_42 rfl rfl
      · exact absurd (by rw [hp, show q = pp by omega]; exact nI_le (by omega) (by omega)) c28
    | succ m ih =>
      intro q S hm hsh hn hp
      rw [wkSettles]
      refine V_iload_n (pc := 20) (i := 3) dX10_begin_20 rfl rfl ?_
      refine V_aload_n (pc := 21) (i := 0) dX10_begin_21 rfl rfl ?_
      refine VW_getWs (pc := 22) dX10_begin_22 fX10_40 (by first | assumption | rfl) rfl (by first | assumption | (simp (disch := omega) only [up2_row, up2_col, up2_same, upR_row]; assumption)) ?_
      refine VW_getI (pc := 25) dX10_begin_25 fX10_48 (by first | assumption | rfl) rfl ?_
      refine V_icmp_ge (pc := 28) 42 dX10_begin_28 rfl (fun c28 => ?_) (fun c28 => ?_)
      · exact absurd c28 (by rw [hp]; exact nI_ge (by omega) (by omega))
      · refine V_aload_n (pc := 31) (i := 0) dX10_begin_31 rfl rfl ?_
        refine V_iload_n (pc := 32) (i := 3) dX10_begin_32 rfl rfl ?_
        refine V_V1v (pc := 33) dX10_begin_33 cX10_53 (by first | assumption | rfl) (X10_settle (d := 4) hsh hn h12 (by omega) hb (by omega)) (Nat.le_of_ble_eq_true rfl) (by omega) (Nat.le_of_ble_eq_true rfl) ?_
        refine V_iinc (pc := 36) dX10_begin_36 (by decide) rfl rfl (iincN (n := 1) (by decide)) ?_
        refine V_goto (pc := 39) 20 dX10_begin_39 rfl ?_
        exact ih (q + 1) _ (by omega) (by rw [wkSettle_off (by omega)]; exact hsh) (by rw [wkSettle_off (by omega)]; exact hn) (by rw [wkSettle_off (by omega)]; exact hp)
  rw [wkBegin, hsx]
  refine loop pp 0 _ rfl ?_ ?_ ?_
  · rw [stCp_off (by omega), up2_col (by decide), up2_same]
    exact hsx
  · rw [stCp_off (by omega)]
    simp (disch := omega) only [up2_row]
    exact hn
  · rw [stCp_off (by omega)]
    simp (disch := omega) only [up2_row]
    exact hp
theorem X10_gainOf {q : Nat} (hq : q < 8) : VM G mX10_gainOf d 0 0 [.ref (b + 57), .int (nI q)] (xE (some (.int (S 65 q - S 64 q))) (wH G b tbC S h0)) (wH G b tbC S h0) := by
  refine VM_start (ls := [some (.ref (b + 57)), some (.int (nI q))]) rfl ?_
  -- %m X10_gainOf
  refine V_aload_n (pc := 0) (i := 0) dX10_gainOf_0 rfl rfl ?_
  refine VW_getR (pc := 1) dX10_gainOf_1 fX10_25 (by first | assumption | rfl) rfl ?_
  refine V_iload_n (pc := 4) (i := 1) dX10_gainOf_4 rfl rfl ?_
  refine VW_ialdN (pc := 5) dX10_gainOf_5 (by first | assumption | rfl) rfl (by omega) (by first | decide | omega) ?_
  refine V_aload_n (pc := 6) (i := 0) dX10_gainOf_6 rfl rfl ?_
  refine VW_getR (pc := 7) dX10_gainOf_7 fX10_22 (by first | assumption | rfl) rfl ?_
  refine V_iload_n (pc := 10) (i := 1) dX10_gainOf_10 rfl rfl ?_
  refine VW_ialdN (pc := 11) dX10_gainOf_11 (by first | assumption | rfl) rfl (by omega) (by first | decide | omega) ?_
  refine V_isub (pc := 12) dX10_gainOf_12 ?_
  exact VE_iret (pc := 13) dX10_gainOf_13 rfl rfl rfl
theorem X10_lackOf {q : Nat} (hq : q < 8) (hd : 1 ≤ d) : VM G mX10_lackOf d 0 0 [.ref (b + 57), .int (nI q)] (xE (some (.int (bcI (S 63 q &&& (S 59 q ^^^ -1))))) (wH G b tbC S h0)) (wH G b tbC S h0) := by
  refine VM_start (ls := [some (.ref (b + 57)), some (.int (nI q))]) rfl ?_
  -- %m X10_lackOf
  refine V_aload_n (pc := 0) (i := 0) dX10_lackOf_0 rfl rfl ?_
  refine VW_getR (pc := 1) dX10_lackOf_1 fX10_18 (by first | assumption | rfl) rfl ?_
  refine V_iload_n (pc := 4) (i := 1) dX10_lackOf_4 rfl rfl ?_
  refine VW_ialdN (pc := 5) dX10_lackOf_5 (by first | assumption | rfl) rfl (by omega) (by first | decide | omega) ?_
  refine V_aload_n (pc := 6) (i := 0) dX10_lackOf_6 rfl rfl ?_
  refine VW_getR (pc := 7) dX10_lackOf_7 fX10_12 (by first | assumption | rfl) rfl ?_
  refine VW_getR (pc := 10) dX10_lackOf_10 fX10_61 (by first | assumption | rfl) rfl ?_
  refine V_iload_n (pc := 13) (i := 1) dX10_lackOf_13 rfl rfl ?_
  refine VW_ialdN (pc := 14) dX10_lackOf_14 (by first | assumption | rfl) rfl (by omega) (by first | decide | omega) ?_
  refine V_iconst (pc := 15) (v := -1) dX10_lackOf_15 (by decide) ?_
  refine V_ixor (pc := 16) dX10_lackOf_16 ?_
  refine V_iand (pc := 17) dX10_lackOf_17 ?_
  refine V_S1i (pc := 18) dX10_lackOf_18 cX10_140 (J6_bitCount (d := 0) _) (Nat.le_of_ble_eq_true rfl) (by omega) (Nat.le_of_ble_eq_true rfl) ?_
  exact VE_iret (pc := 21) dX10_lackOf_21 rfl rfl rfl
def mxI (x y : Int32) : Int32 := if x < y then y else x
def mnI (x y : Int32) : Int32 := if y < x then y else x
def wkCross (S : Nat → Nat → Int32) (q : Nat) : Nat → Nat → Int32 :=
  if bcI (S 63 q &&& (S 59 q ^^^ -1)) ≤ 0 then up2 S 61 q (mxI (S 61 q - mxI (S 65 q - S 64 q) 0) 0) else up2 (up2 S 61 q (mxI (S 61 q - mxI (S 65 q - S 64 q) 0) 0)) 62 q (mnI (S 62 q + 1) 99)
theorem X10_cross {q : Nat} (hq : q < 8) (hb : gB G ≤ b) (hd : 2 ≤ d) : VM G mX10_cross d 0 0 [.ref (b + 57), .int (nI q)] (xE none (wH G b tbC (wkCross S q) h0)) (wH G b tbC S h0) := by
  refine VM_start (ls := [some (.ref (b + 57)), some (.int (nI q)), none]) rfl ?_
  unfold wkCross
  -- %m X10_cross
  refine V_aload_n (pc := 0) (i := 0) dX10_cross_0 rfl rfl ?_
  refine V_iload_n (pc := 1) (i := 1) dX10_cross_1 rfl rfl ?_
  refine V_V1i (pc := 2) dX10_cross_2 cX10_125 (by first | assumption | rfl) (X10_gainOf (d := 0) hq) (Nat.le_of_ble_eq_true rfl) (by omega) (Nat.le_of_ble_eq_true rfl) ?_
  refine V_iconst (pc := 5) (v := 0) dX10_cross_5 (by decide) ?_
  refine V_max (pc := 6) dX10_cross_6 cX10_128 w_maxS w_mathI w_maxC (by omega) (Nat.le_of_ble_eq_true rfl) ?_
  refine V_istore_n (pc := 9) (i := 2) dX10_cross_9 rfl (by decide) rfl ?_
  refine V_aload_n (pc := 10) (i := 0) dX10_cross_10 rfl rfl ?_
  refine VW_getR (pc := 11) dX10_cross_11 fX10_12 (by first | assumption | rfl) rfl ?_
  refine VW_getR (pc := 14) dX10_cross_14 fX10_109 (by first | assumption | rfl) rfl ?_
  refine V_iload_n (pc := 17) (i := 1) dX10_cross_17 rfl rfl ?_
  refine V_aload_n (pc := 18) (i := 0) dX10_cross_18 rfl rfl ?_
  refine VW_getR (pc := 19) dX10_cross_19 fX10_12 (by first | assumption | rfl) rfl ?_
  refine VW_getR (pc := 22) dX10_cross_22 fX10_109 (by first | assumption | rfl) rfl ?_
  refine V_iload_n (pc := 25) (i := 1) dX10_cross_25 rfl rfl ?_
  refine VW_ialdN (pc := 26) dX10_cross_26 (by first | assumption | rfl) rfl (by omega) (by first | decide | omega) ?_
  refine V_iload_n (pc := 27) (i := 2) dX10_cross_27 rfl rfl ?_
  refine V_isub (pc := 28) dX10_cross_28 ?_
  refine V_iconst (pc := 29) (v := 0) dX10_cross_29 (by decide) ?_
  refine V_max (pc := 30) dX10_cross_30 cX10_128 w_maxS w_mathI w_maxC (by omega) (Nat.le_of_ble_eq_true rfl) ?_
  refine VW_iastN (pc := 33) dX10_cross_33 (by first | assumption | rfl) (by assumption) rfl (by omega) (by first | decide | omega) ?_
  refine V_aload_n (pc := 34) (i := 0) dX10_cross_34 rfl rfl ?_
  refine V_iload_n (pc := 35) (i := 1) dX10_cross_35 rfl rfl ?_
  refine V_V1i (pc := 36) dX10_cross_36 cX10_134 (by first | assumption | rfl) (X10_lackOf (d := 1) hq (by omega)) (Nat.le_of_ble_eq_true rfl) (by omega) (Nat.le_of_ble_eq_true rfl) ?_
  simp (disch := omega) only [up2_row]
  refine V_if_le (pc := 39) 67 dX10_cross_39 rfl (fun c39 => ?_) (fun c39 => ?_)
  · (first | rw [if_pos c39] | skip)
    exact VE_vret (pc := 67) dX10_cross_67 rfl rfl
  · rw [if_neg c39]
    refine V_aload_n (pc := 42) (i := 0) dX10_cross_42 rfl rfl ?_
    refine VW_getR (pc := 43) dX10_cross_43 fX10_12 (by first | assumption | rfl) rfl ?_
    refine VW_getR (pc := 46) dX10_cross_46 fX10_112 (by first | assumption | rfl) rfl ?_
    refine V_iload_n (pc := 49) (i := 1) dX10_cross_49 rfl rfl ?_
    refine V_aload_n (pc := 50) (i := 0) dX10_cross_50 rfl rfl ?_
    refine VW_getR (pc := 51) dX10_cross_51 fX10_12 (by first | assumption | rfl) rfl ?_
    refine VW_getR (pc := 54) dX10_cross_54 fX10_112 (by first | assumption | rfl) rfl ?_
    refine V_iload_n (pc := 57) (i := 1) dX10_cross_57 rfl rfl ?_
    refine VW_ialdN (pc := 58) dX10_cross_58 (by first | assumption | rfl) rfl (by omega) (by first | decide | omega) ?_
    simp (disch := omega) only [up2_row]
    refine V_iconst (pc := 59) (v := 1) dX10_cross_59 (by decide) ?_
    refine V_iadd (pc := 60) dX10_cross_60 ?_
    refine V_bipush (pc := 61) (v := 99) dX10_cross_61 (by decide) ?_
    refine V_min (pc := 63) dX10_cross_63 cX10_137 w_minS w_mathI w_minC (by omega) (Nat.le_of_ble_eq_true rfl) ?_
    refine VW_iastN (pc := 66) dX10_cross_66 (by first | assumption | rfl) (by assumption) rfl (by omega) (by first | decide | omega) ?_
    (first | rw [if_pos c39] | skip)
    exact VE_vret (pc := 67) dX10_cross_67 rfl rfl
def wkStay (S : Nat → Nat → Int32) (q : Nat) : Nat → Nat → Int32 := up2 S 61 q (mnI (S 61 q + bcI (S 63 q &&& (S 59 q ^^^ -1)) + 1) 99)
theorem X10_stay {q : Nat} (hq : q < 8) (hb : gB G ≤ b) (hd : 2 ≤ d) : VM G mX10_stay d 0 0 [.ref (b + 57), .int (nI q)] (xE none (wH G b tbC (wkStay S q) h0)) (wH G b tbC S h0) := by
  refine VM_start (ls := [some (.ref (b + 57)), some (.int (nI q)), none]) rfl ?_
  -- %m X10_stay
  refine V_aload_n (pc := 0) (i := 0) dX10_stay_0 rfl rfl ?_
  refine VW_getR (pc := 1) dX10_stay_1 fX10_12 (by first | assumption | rfl) rfl ?_
  refine VW_getR (pc := 4) dX10_stay_4 fX10_109 (by first | assumption | rfl) rfl ?_
  refine V_iload_n (pc := 7) (i := 1) dX10_stay_7 rfl rfl ?_
  refine VW_ialdN (pc := 8) dX10_stay_8 (by first | assumption | rfl) rfl (by omega) (by first | decide | omega) ?_
  refine V_aload_n (pc := 9) (i := 0) dX10_stay_9 rfl rfl ?_
  refine V_iload_n (pc := 10) (i := 1) dX10_stay_10 rfl rfl ?_
  refine V_V1i (pc := 11) dX10_stay_11 cX10_134 (by first | assumption | rfl) (X10_lackOf (d := 1) hq (by omega)) (Nat.le_of_ble_eq_true rfl) (by omega) (Nat.le_of_ble_eq_true rfl) ?_
  refine V_iadd (pc := 14) dX10_stay_14 ?_
  refine V_iconst (pc := 15) (v := 1) dX10_stay_15 (by decide) ?_
  refine V_iadd (pc := 16) dX10_stay_16 ?_
  refine V_istore_n (pc := 17) (i := 2) dX10_stay_17 rfl (by decide) rfl ?_
  refine V_aload_n (pc := 18) (i := 0) dX10_stay_18 rfl rfl ?_
  refine VW_getR (pc := 19) dX10_stay_19 fX10_12 (by first | assumption | rfl) rfl ?_
  refine VW_getR (pc := 22) dX10_stay_22 fX10_109 (by first | assumption | rfl) rfl ?_
  refine V_iload_n (pc := 25) (i := 1) dX10_stay_25 rfl rfl ?_
  refine V_iload_n (pc := 26) (i := 2) dX10_stay_26 rfl rfl ?_
  refine V_bipush (pc := 27) (v := 99) dX10_stay_27 (by decide) ?_
  refine V_min (pc := 29) dX10_stay_29 cX10_137 w_minS w_mathI w_minC (by omega) (Nat.le_of_ble_eq_true rfl) ?_
  refine VW_iastN (pc := 32) dX10_stay_32 (by first | assumption | rfl) (by assumption) rfl (by omega) (by first | decide | omega) ?_
  exact VE_vret (pc := 33) dX10_stay_33 rfl rfl
theorem X10_leftBehind : VM G mX10_leftBehind d 0 0 [.ref (b + 57)] (xE (some (.int (S 57 7 &&& (S 58 7 ^^^ -1)))) (wH G b tbC S h0)) (wH G b tbC S h0) := by
  refine VM_start (ls := [some (.ref (b + 57))]) rfl ?_
  -- %m X10_leftBehind
  refine V_aload_n (pc := 0) (i := 0) dX10_leftBehind_0 rfl rfl ?_
  refine VW_getI (pc := 1) dX10_leftBehind_1 fX10_36 (by first | assumption | rfl) rfl ?_
  refine V_aload_n (pc := 4) (i := 0) dX10_leftBehind_4 rfl rfl ?_
  refine VW_getR (pc := 5) dX10_leftBehind_5 fX10_12 (by first | assumption | rfl) rfl ?_
  refine VW_getI (pc := 8) dX10_leftBehind_8 fX10_85 (by first | assumption | rfl) rfl ?_
  refine V_iconst (pc := 11) (v := -1) dX10_leftBehind_11 (by decide) ?_
  refine V_ixor (pc := 12) dX10_leftBehind_12 ?_
  refine V_iand (pc := 13) dX10_leftBehind_13 ?_
  exact VE_iret (pc := 14) dX10_leftBehind_14 rfl rfl rfl
/-- all that those of x have, together -/
def orB (f : Nat → Int32) (x : Int32) : Nat → Nat → Int32 → Int32
  | 0, _, y => y
  | m + 1, i, y => orB f x m (i + 1) (if hasB x (nI i) then y ||| f i else y)
theorem X10_thereOfAll {s pp : Nat} (hsh : shC (S 57 6) = s) (hp : S s 7 = nI pp) (h8 : pp ≤ 8) (hd : 1 ≤ d) (x : Int32) : VM G mX10_thereOfAll d 0 0 [.ref (b + 57), .int x] (xE (some (.int (orB (S 63) x pp 0 0))) (wH G b tbC S h0)) (wH G b tbC S h0) := by
  have hS := tbC_shore (S 57 6)
  rw [hsh] at hS
  obtain ⟨a0, a1, -⟩ := id hS
  refine VM_start (ls := [some (.ref (b + 57)), some (.int x), none, none]) rfl ?_
  -- %m X10_thereOfAll
  refine V_iconst (pc := 0) (v := 0) dX10_thereOfAll_0 (by decide) ?_
  refine V_istore_n (pc := 1) (i := 2) dX10_thereOfAll_1 rfl (by decide) rfl ?_
  refine V_iconst (pc := 2) (v := 0) dX10_thereOfAll_2 (by decide) ?_
  refine V_istore_n (pc := 3) (i := 3) dX10_thereOfAll_3 rfl (by decide) rfl ?_
  have loop : ∀ (m q : Nat) (y : Int32), m + q = pp → V G mX10_thereOfAll d 0 0 (xE (some (.int (orB (S 63) x m q y))) (wH G b tbC S h0)) 4 [some (.ref (b + 57)), some (.int x), some (.int y), some (.int (nI q))] [] (wH G b tbC S h0) := by
    intro m
    induction m with
    | zero =>
      intro q y hm
      refine V_iload_n (pc := 4) (i := 3) dX10_thereOfAll_4 rfl rfl ?_
      refine V_aload_n (pc := 5) (i := 0) dX10_thereOfAll_5 rfl rfl ?_
      refine VW_getWs (pc := 6) dX10_thereOfAll_6 fX10_40 (by first | assumption | rfl) rfl (by first | assumption | (simp (disch := omega) only [up2_row, up2_col, up2_same, upR_row]; assumption)) ?_
      refine VW_getI (pc := 9) dX10_thereOfAll_9 fX10_48 (by first | assumption | rfl) rfl ?_
      refine V_icmp_ge (pc := 12) 38 dX10_thereOfAll_12 rfl (fun c12 => ?_) (fun c12 => ?_)
      · refine V_iload_n (pc := 38) (i := 2) dX10_thereOfAll_38 rfl rfl ?_
        exact VE_iret (pc := 39) dX10_thereOfAll_39 rfl rfl rfl
      · exact absurd (by rw [hp, show q = pp by omega]; exact nI_le (by omega) (by omega)) c12
    | succ m ih =>
      intro q y hm
      rw [orB]
      refine V_iload_n (pc := 4) (i := 3) dX10_thereOfAll_4 rfl rfl ?_
      refine V_aload_n (pc := 5) (i := 0) dX10_thereOfAll_5 rfl rfl ?_
      refine VW_getWs (pc := 6) dX10_thereOfAll_6 fX10_40 (by first | assumption | rfl) rfl (by first | assumption | (simp (disch := omega) only [up2_row, up2_col, up2_same, upR_row]; assumption)) ?_
      refine VW_getI (pc := 9) dX10_thereOfAll_9 fX10_48 (by first | assumption | rfl) rfl ?_
      refine V_icmp_ge (pc := 12) 38 dX10_thereOfAll_12 rfl (fun c12 => ?_) (fun c12 => ?_)
      · exact absurd c12 (by rw [hp]; exact nI_ge (by omega) (by omega))
      · refine V_iload_n (pc := 15) (i := 3) dX10_thereOfAll_15 rfl rfl ?_
        refine V_iload_n (pc := 16) (i := 1) dX10_thereOfAll_16 rfl rfl ?_
        refine V_SN2i (pc := 17) dX10_thereOfAll_17 cX10_74 (X11_isIn (d := 0) _ _) (Nat.le_of_ble_eq_true rfl) (by omega) (Nat.le_of_ble_eq_true rfl) ?_
        refine V_if_eq (pc := 20) 32 dX10_thereOfAll_20 rfl (fun c20 => ?_) (fun c20 => ?_)
        · rw [if_neg (by rw [b2i_0.mp c20]; decide)]
          refine V_iinc (pc := 32) dX10_thereOfAll_32 (by decide) rfl rfl (iincN (n := 1) (by decide)) ?_
          refine V_goto (pc := 35) 4 dX10_thereOfAll_35 rfl ?_
          exact ih (q + 1) _ (by omega)
        · rw [if_pos (b2i_n0.mp c20)]
          refine V_iload_n (pc := 23) (i := 2) dX10_thereOfAll_23 rfl rfl ?_
          refine V_aload_n (pc := 24) (i := 0) dX10_thereOfAll_24 rfl rfl ?_
          refine VW_getR (pc := 25) dX10_thereOfAll_25 fX10_18 (by first | assumption | rfl) rfl ?_
          refine V_iload_n (pc := 28) (i := 3) dX10_thereOfAll_28 rfl rfl ?_
          refine VW_ialdN (pc := 29) dX10_thereOfAll_29 (by first | assumption | rfl) rfl (by omega) (by first | decide | omega) ?_
          refine V_ior (pc := 30) dX10_thereOfAll_30 ?_
          refine V_istore_n (pc := 31) (i := 2) dX10_thereOfAll_31 rfl (by decide) rfl ?_
          refine V_iinc (pc := 32) dX10_thereOfAll_32 (by decide) rfl rfl (iincN (n := 1) (by decide)) ?_
          refine V_goto (pc := 35) 4 dX10_thereOfAll_35 rfl ?_
          exact ih (q + 1) _ (by omega)
  exact loop pp 0 0 rfl
/-- the one who longs most, of x: m from q on, z so far -/
def mlF (lg : Nat → Int32) (x : Int32) : Nat → Nat → Int32 → Int32
  | 0, _, z => z
  | m + 1, q, z => mlF lg x m (q + 1) (if hasB x (nI q) = true ∧ (z = -1 ∨ lg z.toNatClampNeg < lg q) then nI q else z)
theorem X10_mostLonging {s pp : Nat} (hsh : shC (S 57 6) = s) (hp : S s 7 = nI pp) (h8 : pp ≤ 8) (hd : 1 ≤ d) (x : Int32) : VM G mX10_mostLonging d 0 0 [.ref (b + 57), .int x] (xE (some (.int (mlF (S 61) x pp 0 (-1)))) (wH G b tbC S h0)) (wH G b tbC S h0) := by
  have hS := tbC_shore (S 57 6)
  rw [hsh] at hS
  obtain ⟨a0, a1, -⟩ := id hS
  refine VM_start (ls := [some (.ref (b + 57)), some (.int x), none, none]) rfl ?_
  -- %m X10_mostLonging
  refine V_iconst (pc := 0) (v := -1) dX10_mostLonging_0 (by decide) ?_
  refine V_istore_n (pc := 1) (i := 2) dX10_mostLonging_1 rfl (by decide) rfl ?_
  refine V_iconst (pc := 2) (v := 0) dX10_mostLonging_2 (by decide) ?_
  refine V_istore_n (pc := 3) (i := 3) dX10_mostLonging_3 rfl (by decide) rfl ?_
  have loop : ∀ (m q : Nat) (z : Int32), m + q = pp → (z = -1 ∨ ∃ j : Nat, j < 8 ∧ z = nI j) → V G mX10_mostLonging d 0 0 (xE (some (.int (mlF (S 61) x m q z))) (wH G b tbC S h0)) 4 [some (.ref (b + 57)), some (.int x), some (.int z), some (.int (nI q))] [] (wH G b tbC S h0) := by
    intro m
    induction m with
    | zero =>
      intro q z hm hz
      refine V_iload_n (pc := 4) (i := 3) dX10_mostLonging_4 rfl rfl ?_
      refine V_aload_n (pc := 5) (i := 0) dX10_mostLonging_5 rfl rfl ?_
      refine VW_getWs (pc := 6) dX10_mostLonging_6 fX10_40 (by first | assumption | rfl) rfl (by first | assumption | (simp (disch := omega) only [up2_row, up2_col, up2_same, upR_row]; assumption)) ?_
      refine VW_getI (pc := 9) dX10_mostLonging_9 fX10_48 (by first | assumption | rfl) rfl ?_
      refine V_icmp_ge (pc := 12) 57 dX10_mostLonging_12 rfl (fun c12 => ?_) (fun c12 => ?_)
      · refine V_iload_n (pc := 57) (i := 2) dX10_mostLonging_57 rfl rfl ?_
        exact VE_iret (pc := 58) dX10_mostLonging_58 rfl rfl rfl
      · exact absurd (by rw [hp, show q = pp by omega]; exact nI_le (by omega) (by omega)) c12
    | succ m ih =>
      intro q z hm hz
      rw [mlF]
      refine V_iload_n (pc := 4) (i := 3) dX10_mostLonging_4 rfl rfl ?_
      refine V_aload_n (pc := 5) (i := 0) dX10_mostLonging_5 rfl rfl ?_
      refine VW_getWs (pc := 6) dX10_mostLonging_6 fX10_40 (by first | assumption | rfl) rfl (by first | assumption | (simp (disch := omega) only [up2_row, up2_col, up2_same, upR_row]; assumption)) ?_
      refine VW_getI (pc := 9) dX10_mostLonging_9 fX10_48 (by first | assumption | rfl) rfl ?_
      refine V_icmp_ge (pc := 12) 57 dX10_mostLonging_12 rfl (fun c12 => ?_) (fun c12 => ?_)
      · exact absurd c12 (by rw [hp]; exact nI_ge (by omega) (by omega))
      · refine V_iload_n (pc := 15) (i := 3) dX10_mostLonging_15 rfl rfl ?_
        refine V_iload_n (pc := 16) (i := 1) dX10_mostLonging_16 rfl rfl ?_
        refine V_SN2i (pc := 17) dX10_mostLonging_17 cX10_74 (X11_isIn (d := 0) _ _) (Nat.le_of_ble_eq_true rfl) (by omega) (Nat.le_of_ble_eq_true rfl) ?_
        refine V_if_eq (pc := 20) 51 dX10_mostLonging_20 rfl (fun c20 => ?_) (fun c20 => ?_)
        · rw [if_neg (fun w => by rw [b2i_0.mp c20] at w; exact absurd w.1 (by decide))]
          refine V_iinc (pc := 51) dX10_mostLonging_51 (by decide) rfl rfl (iincN (n := 1) (by decide)) ?_
          refine V_goto (pc := 54) 4 dX10_mostLonging_54 rfl ?_
          exact ih (q + 1) _ (by omega) hz
        · refine V_iload_n (pc := 23) (i := 2) dX10_mostLonging_23 rfl rfl ?_
          refine V_iconst (pc := 24) (v := -1) dX10_mostLonging_24 (by decide) ?_
          refine V_icmp_eq (pc := 25) 49 dX10_mostLonging_25 rfl (fun c25 => ?_) (fun c25 => ?_)
          · rw [if_pos ⟨b2i_n0.mp c20, Or.inl c25⟩]
            refine V_iload_n (pc := 49) (i := 3) dX10_mostLonging_49 rfl rfl ?_
            refine V_istore_n (pc := 50) (i := 2) dX10_mostLonging_50 rfl (by decide) rfl ?_
            refine V_iinc (pc := 51) dX10_mostLonging_51 (by decide) rfl rfl (iincN (n := 1) (by decide)) ?_
            refine V_goto (pc := 54) 4 dX10_mostLonging_54 rfl ?_
            exact ih (q + 1) _ (by omega) (Or.inr ⟨q, by omega, rfl⟩)
          · have hz2 : ∃ j : Nat, j < 8 ∧ z = nI j := hz.resolve_left c25
            obtain ⟨j, hj, hzj⟩ := hz2
            subst hzj
            rw [nI_clamp (by omega)]
            refine V_aload_n (pc := 28) (i := 0) dX10_mostLonging_28 rfl rfl ?_
            refine VW_getR (pc := 29) dX10_mostLonging_29 fX10_12 (by first | assumption | rfl) rfl ?_
            refine VW_getR (pc := 32) dX10_mostLonging_32 fX10_109 (by first | assumption | rfl) rfl ?_
            refine V_iload_n (pc := 35) (i := 3) dX10_mostLonging_35 rfl rfl ?_
            refine VW_ialdN (pc := 36) dX10_mostLonging_36 (by first | assumption | rfl) rfl (by omega) (by first | decide | omega) ?_
            refine V_aload_n (pc := 37) (i := 0) dX10_mostLonging_37 rfl rfl ?_
            refine VW_getR (pc := 38) dX10_mostLonging_38 fX10_12 (by first | assumption | rfl) rfl ?_
            refine VW_getR (pc := 41) dX10_mostLonging_41 fX10_109 (by first | assumption | rfl) rfl ?_
            refine V_iload_n (pc := 44) (i := 2) dX10_mostLonging_44 rfl rfl ?_
            refine VW_ialdN (pc := 45) dX10_mostLonging_45 (by first | assumption | rfl) rfl (by omega) (by first | decide | omega) ?_
            refine V_icmp_le (pc := 46) 51 dX10_mostLonging_46 rfl (fun c46 => ?_) (fun c46 => ?_)
            · rw [if_neg (fun w => w.2.elim c25 (Int32.not_lt.mpr c46))]
              refine V_iinc (pc := 51) dX10_mostLonging_51 (by decide) rfl rfl (iincN (n := 1) (by decide)) ?_
              refine V_goto (pc := 54) 4 dX10_mostLonging_54 rfl ?_
              exact ih (q + 1) _ (by omega) (Or.inr ⟨j, hj, rfl⟩)
            · rw [if_pos ⟨b2i_n0.mp c20, Or.inr (Int32.not_le.mp c46)⟩]
              refine V_iload_n (pc := 49) (i := 3) dX10_mostLonging_49 rfl rfl ?_
              refine V_istore_n (pc := 50) (i := 2) dX10_mostLonging_50 rfl (by decide) rfl ?_
              refine V_iinc (pc := 51) dX10_mostLonging_51 (by decide) rfl rfl (iincN (n := 1) (by decide)) ?_
              refine V_goto (pc := 54) 4 dX10_mostLonging_54 rfl ?_
              exact ih (q + 1) _ (by omega) (Or.inr ⟨q, by omega, rfl⟩)
  exact loop pp 0 _ rfl (Or.inl rfl)
/-- those of l who are left, when m have gone -/
def wgF (F : Int32 → Int32) : Nat → Int32 → Int32
  | 0, l => l
  | m + 1, l => if l = 0 then l else wgF F m (l &&& (1 <<< (F l &&& 31) ^^^ -1))
theorem X10_whoGoes {s pp bb : Nat} (hsh : shC (S 57 6) = s) (hp : S s 7 = nI pp) (h8 : pp ≤ 8) (hbb : S 58 5 = nI bb) (hb8 : bb ≤ 8) (hd : 2 ≤ d) : VM G mX10_whoGoes d 0 0 [.ref (b + 57)] (xE (some (.int (S 57 7 &&& (wgF (fun x => mlF (S 61) x pp 0 (-1)) bb (S 57 7) ^^^ -1)))) (wH G b tbC S h0)) (wH G b tbC S h0) := by
  refine VM_start (ls := [some (.ref (b + 57)), none, none]) rfl ?_
  -- %m X10_whoGoes
  refine V_aload_n (pc := 0) (i := 0) dX10_whoGoes_0 rfl rfl ?_
  refine VW_getI (pc := 1) dX10_whoGoes_1 fX10_36 (by first | assumption | rfl) rfl ?_
  refine V_istore_n (pc := 4) (i := 1) dX10_whoGoes_4 rfl (by decide) rfl ?_
  refine V_iconst (pc := 5) (v := 0) dX10_whoGoes_5 (by decide) ?_
  refine V_istore_n (pc := 6) (i := 2) dX10_whoGoes_6 rfl (by decide) rfl ?_
  have loop : ∀ (m i : Nat) (l : Int32), m + i = bb → V G mX10_whoGoes d 0 0 (xE (some (.int (S 57 7 &&& (wgF (fun x => mlF (S 61) x pp 0 (-1)) m l ^^^ -1)))) (wH G b tbC S h0)) 7 [some (.ref (b + 57)), some (.int l), some (.int (nI i))] [] (wH G b tbC S h0) := by
    intro m
    induction m with
    | zero =>
      intro i l hm
      refine V_iload_n (pc := 7) (i := 2) dX10_whoGoes_7 rfl rfl ?_
      refine V_aload_n (pc := 8) (i := 0) dX10_whoGoes_8 rfl rfl ?_
      refine VW_getR (pc := 9) dX10_whoGoes_9 fX10_12 (by first | assumption | rfl) rfl ?_
      refine VW_getI (pc := 12) dX10_whoGoes_12 fX10_119 (by first | assumption | rfl) rfl ?_
      refine V_icmp_ge (pc := 15) 40 dX10_whoGoes_15 rfl (fun c15 => ?_) (fun c15 => ?_)
      · refine V_aload_n (pc := 40) (i := 0) dX10_whoGoes_40 rfl rfl ?_
        refine VW_getI (pc := 41) dX10_whoGoes_41 fX10_36 (by first | assumption | rfl) rfl ?_
        refine V_iload_n (pc := 44) (i := 1) dX10_whoGoes_44 rfl rfl ?_
        refine V_iconst (pc := 45) (v := -1) dX10_whoGoes_45 (by decide) ?_
        refine V_ixor (pc := 46) dX10_whoGoes_46 ?_
        refine V_iand (pc := 47) dX10_whoGoes_47 ?_
        exact VE_iret (pc := 48) dX10_whoGoes_48 rfl rfl rfl
      · exact absurd (by rw [hbb, show i = bb by omega]; exact nI_le (by omega) (by omega)) c15
    | succ m ih =>
      intro i l hm
      rw [wgF]
      refine V_iload_n (pc := 7) (i := 2) dX10_whoGoes_7 rfl rfl ?_
      refine V_aload_n (pc := 8) (i := 0) dX10_whoGoes_8 rfl rfl ?_
      refine VW_getR (pc := 9) dX10_whoGoes_9 fX10_12 (by first | assumption | rfl) rfl ?_
      refine VW_getI (pc := 12) dX10_whoGoes_12 fX10_119 (by first | assumption | rfl) rfl ?_
      refine V_icmp_ge (pc := 15) 40 dX10_whoGoes_15 rfl (fun c15 => ?_) (fun c15 => ?_)
      · exact absurd c15 (by rw [hbb]; exact nI_ge (by omega) (by omega))
      · refine V_iload_n (pc := 18) (i := 1) dX10_whoGoes_18 rfl rfl ?_
        refine V_if_eq (pc := 19) 40 dX10_whoGoes_19 rfl (fun c19 => ?_) (fun c19 => ?_)
        · rw [if_pos c19]
          refine V_aload_n (pc := 40) (i := 0) dX10_whoGoes_40 rfl rfl ?_
          refine VW_getI (pc := 41) dX10_whoGoes_41 fX10_36 (by first | assumption | rfl) rfl ?_
          refine V_iload_n (pc := 44) (i := 1) dX10_whoGoes_44 rfl rfl ?_
          refine V_iconst (pc := 45) (v := -1) dX10_whoGoes_45 (by decide) ?_
          refine V_ixor (pc := 46) dX10_whoGoes_46 ?_
          refine V_iand (pc := 47) dX10_whoGoes_47 ?_
          exact VE_iret (pc := 48) dX10_whoGoes_48 rfl rfl rfl
        · rw [if_neg c19]
          refine V_iload_n (pc := 22) (i := 1) dX10_whoGoes_22 rfl rfl ?_
          refine V_iconst (pc := 23) (v := 1) dX10_whoGoes_23 (by decide) ?_
          refine V_aload_n (pc := 24) (i := 0) dX10_whoGoes_24 rfl rfl ?_
          refine V_iload_n (pc := 25) (i := 1) dX10_whoGoes_25 rfl rfl ?_
          refine V_V1i (pc := 26) dX10_whoGoes_26 cX10_122 (by first | assumption | rfl) (X10_mostLonging (d := 1) hsh hp h8 (by omega) _) (Nat.le_of_ble_eq_true rfl) (by omega) (Nat.le_of_ble_eq_true rfl) ?_
          refine V_ishl (pc := 29) dX10_whoGoes_29 ?_
          refine V_iconst (pc := 30) (v := -1) dX10_whoGoes_30 (by decide) ?_
          refine V_ixor (pc := 31) dX10_whoGoes_31 ?_
          refine V_iand (pc := 32) dX10_whoGoes_32 ?_
          refine V_istore_n (pc := 33) (i := 1) dX10_whoGoes_33 rfl (by decide) rfl ?_
          refine V_iinc (pc := 34) dX10_whoGoes_34 (by decide) rfl rfl (iincN (n := 1) (by decide)) ?_
          refine V_goto (pc := 37) 7 dX10_whoGoes_37 rfl ?_
          exact ih (i + 1) _ (by omega)
  exact loop bb 0 _ rfl
end Wk2
