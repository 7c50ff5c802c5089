/-! ===== State and Acts of the class ===== -/
section St
variable {G : xG} {d bc bs : Nat} {b : Nat} {tb : xTb} {S : Nat → Nat → Int32} {h0 h : xH}
/-- four rows of eight are copied -/
def st4 (S : Nat → Nat → Int32) (k o1 o2 o3 o4 : Nat) : Nat → Nat → Int32 := upR (upR (upR (upR S (k + 1) (va_cpy (S o1) (S (k + 1)) 0 0 8)) (k + 2) (va_cpy (S o2) (S (k + 2)) 0 0 8)) (k + 3) (va_cpy (S o3) (S (k + 3)) 0 0 8)) (k + 4) (va_cpy (S o4) (S (k + 4)) 0 0 8)
def stCp (S : Nat → Nat → Int32) (k o : Nat) : Nat → Nat → Int32 := up2 (up2 (up2 (up2 (st4 S k (o + 1) (o + 2) (o + 3) (o + 4)) k 4 (S o 4)) k 5 (S o 5)) k 6 (S o 6)) k 7 (S o 7)
theorem X8_copyFrom {k o : Nat} (hs : StateAt tb k) (ho : StateAt tb o) (hko : k + 5 ≤ o ∨ o + 5 ≤ k) (hb : gB G ≤ b) (hd : 1 ≤ d) : VM G mX8_copyFrom d 0 0 [.ref (b + k), .ref (b + o)] (xE none (wH G b tb (stCp S k o) h0)) (wH G b tb S h0) := by
  obtain ⟨k0, k1, k2, k3, k4⟩ := hs
  obtain ⟨o0, o1, o2, o3, o4⟩ := ho
  refine VM_start (ls := [some (.ref (b + k)), some (.ref (b + o))]) rfl ?_
  -- %m X8_copyFrom
  refine V_aload_n (pc := 0) (i := 1) dX8_copyFrom_0 rfl rfl ?_
  refine VW_getR (pc := 1) dX8_copyFrom_1 fX8_9 (by first | assumption | rfl) rfl ?_
  refine V_iconst (pc := 4) (v := 0) dX8_copyFrom_4 (by decide) ?_
  refine V_aload_n (pc := 5) (i := 0) dX8_copyFrom_5 rfl rfl ?_
  refine VW_getR (pc := 6) dX8_copyFrom_6 fX8_9 (by first | assumption | rfl) rfl ?_
  refine V_iconst (pc := 9) (v := 0) dX8_copyFrom_9 (by decide) ?_
  refine V_bipush (pc := 10) (v := 8) dX8_copyFrom_10 (by decide) ?_
  refine VW_copyN (pc := 12) (s' := 0) (d9 := 0) (n' := 8) dX8_copyFrom_12 cX8_42 (by first | assumption | rfl) (by first | assumption | rfl) (by assumption) rfl rfl rfl (by decide) (by decide) (by decide) (by decide) (by omega) (Nat.le_of_ble_eq_true rfl) ?_
  refine V_aload_n (pc := 15) (i := 1) dX8_copyFrom_15 rfl rfl ?_
  refine VW_getR (pc := 16) dX8_copyFrom_16 fX8_15 (by first | assumption | rfl) rfl ?_
  refine V_iconst (pc := 19) (v := 0) dX8_copyFrom_19 (by decide) ?_
  refine V_aload_n (pc := 20) (i := 0) dX8_copyFrom_20 rfl rfl ?_
  refine VW_getR (pc := 21) dX8_copyFrom_21 fX8_15 (by first | assumption | rfl) rfl ?_
  refine V_iconst (pc := 24) (v := 0) dX8_copyFrom_24 (by decide) ?_
  refine V_bipush (pc := 25) (v := 8) dX8_copyFrom_25 (by decide) ?_
  refine VW_copyN (pc := 27) (s' := 0) (d9 := 0) (n' := 8) dX8_copyFrom_27 cX8_42 (by first | assumption | rfl) (by first | assumption | rfl) (by assumption) rfl rfl rfl (by decide) (by decide) (by decide) (by decide) (by omega) (Nat.le_of_ble_eq_true rfl) ?_
  refine V_aload_n (pc := 30) (i := 1) dX8_copyFrom_30 rfl rfl ?_
  refine VW_getR (pc := 31) dX8_copyFrom_31 fX8_18 (by first | assumption | rfl) rfl ?_
  refine V_iconst (pc := 34) (v := 0) dX8_copyFrom_34 (by decide) ?_
  refine V_aload_n (pc := 35) (i := 0) dX8_copyFrom_35 rfl rfl ?_
  refine VW_getR (pc := 36) dX8_copyFrom_36 fX8_18 (by first | assumption | rfl) rfl ?_
  refine V_iconst (pc := 39) (v := 0) dX8_copyFrom_39 (by decide) ?_
  refine V_bipush (pc := 40) (v := 8) dX8_copyFrom_40 (by decide) ?_
  refine VW_copyN (pc := 42) (s' := 0) (d9 := 0) (n' := 8) dX8_copyFrom_42 cX8_42 (by first | assumption | rfl) (by first | assumption | rfl) (by assumption) rfl rfl rfl (by decide) (by decide) (by decide) (by decide) (by omega) (Nat.le_of_ble_eq_true rfl) ?_
  refine V_aload_n (pc := 45) (i := 1) dX8_copyFrom_45 rfl rfl ?_
  refine VW_getR (pc := 46) dX8_copyFrom_46 fX8_21 (by first | assumption | rfl) rfl ?_
  refine V_iconst (pc := 49) (v := 0) dX8_copyFrom_49 (by decide) ?_
  refine V_aload_n (pc := 50) (i := 0) dX8_copyFrom_50 rfl rfl ?_
  refine VW_getR (pc := 51) dX8_copyFrom_51 fX8_21 (by first | assumption | rfl) rfl ?_
  refine V_iconst (pc := 54) (v := 0) dX8_copyFrom_54 (by decide) ?_
  refine V_bipush (pc := 55) (v := 8) dX8_copyFrom_55 (by decide) ?_
  refine VW_copyN (pc := 57) (s' := 0) (d9 := 0) (n' := 8) dX8_copyFrom_57 cX8_42 (by first | assumption | rfl) (by first | assumption | rfl) (by assumption) rfl rfl rfl (by decide) (by decide) (by decide) (by decide) (by omega) (Nat.le_of_ble_eq_true rfl) ?_
  simp (disch := omega) only [upR_row]
  refine V_aload_n (pc := 60) (i := 0) dX8_copyFrom_60 rfl rfl ?_
  refine V_aload_n (pc := 61) (i := 1) dX8_copyFrom_61 rfl rfl ?_
  refine VW_getI (pc := 62) dX8_copyFrom_62 fX8_24 (by first | assumption | rfl) rfl ?_
  simp (disch := omega) only [upR_row]
  refine VW_putI (pc := 65) dX8_copyFrom_65 fX8_24 ftX8 (fpI rfl rfl (tyX8_ok 4 (by decide))) (by first | assumption | rfl) rfl (by assumption) ?_
  refine V_aload_n (pc := 68) (i := 0) dX8_copyFrom_68 rfl rfl ?_
  refine V_aload_n (pc := 69) (i := 1) dX8_copyFrom_69 rfl rfl ?_
  refine VW_getI (pc := 70) dX8_copyFrom_70 fX8_28 (by first | assumption | rfl) rfl ?_
  simp (disch := omega) only [upR_row, up2_row]
  refine VW_putI (pc := 73) dX8_copyFrom_73 fX8_28 ftX8 (fpI rfl rfl (tyX8_ok 5 (by decide))) (by first | assumption | rfl) rfl (by assumption) ?_
  refine V_aload_n (pc := 76) (i := 0) dX8_copyFrom_76 rfl rfl ?_
  refine V_aload_n (pc := 77) (i := 1) dX8_copyFrom_77 rfl rfl ?_
  refine VW_getI (pc := 78) dX8_copyFrom_78 fX8_31 (by first | assumption | rfl) rfl ?_
  simp (disch := omega) only [upR_row, up2_row]
  refine VW_putI (pc := 81) dX8_copyFrom_81 fX8_31 ftX8 (fpI rfl rfl (tyX8_ok 6 (by decide))) (by first | assumption | rfl) rfl (by assumption) ?_
  refine V_aload_n (pc := 84) (i := 0) dX8_copyFrom_84 rfl rfl ?_
  refine V_aload_n (pc := 85) (i := 1) dX8_copyFrom_85 rfl rfl ?_
  refine VW_getI (pc := 86) dX8_copyFrom_86 fX8_34 (by first | assumption | rfl) rfl ?_
  simp (disch := omega) only [upR_row, up2_row]
  refine VW_putI (pc := 89) dX8_copyFrom_89 fX8_34 ftX8 (fpI rfl rfl (tyX8_ok 7 (by decide))) (by first | assumption | rfl) rfl (by assumption) ?_
  exact VE_vret (pc := 92) dX8_copyFrom_92 rfl rfl
def stStart (S : Nat → Nat → Int32) (k s : Nat) : Nat → Nat → Int32 := up2 (up2 (up2 (up2 (upR (upR (upR (upR S (k + 1) (va_cpy (S (s + 10)) (S (k + 1)) 0 0 8)) (k + 2) (va_cpy (S (s + 11)) (S (k + 2)) 0 0 8)) (k + 3) (va_cpy (S (s + 12)) (S (k + 3)) 0 0 8)) (k + 4) (fillR (S (k + 4)) 0 0 8)) k 4 0) k 5 (S s 9)) k 6 0) k 7 0
theorem X8_startFrom {k s : Nat} (hs : StateAt tb k) (ho : ShoreAt tb s) (hko : k + 5 ≤ s ∨ s + 13 ≤ k) (hb : gB G ≤ b) (hd : 1 ≤ d) : VM G mX8_startFrom d 0 0 [.ref (b + k), .ref (b + s)] (xE none (wH G b tb (stStart S k s) h0)) (wH G b tb S h0) := by
  obtain ⟨k0, k1, k2, k3, k4⟩ := hs
  obtain ⟨o0, o1, o2, o3, o4, o5, o6, o7⟩ := ho
  refine VM_start (ls := [some (.ref (b + k)), some (.ref (b + s))]) rfl ?_
  -- %m X8_startFrom
  refine V_aload_n (pc := 0) (i := 1) dX8_startFrom_0 rfl rfl ?_
  refine VW_getRN (pc := 1) dX8_startFrom_1 fX8_37 (by first | assumption | rfl) rfl ?_
  refine V_iconst (pc := 4) (v := 0) dX8_startFrom_4 (by decide) ?_
  refine V_aload_n (pc := 5) (i := 0) dX8_startFrom_5 rfl rfl ?_
  refine VW_getR (pc := 6) dX8_startFrom_6 fX8_9 (by first | assumption | rfl) rfl ?_
  refine V_iconst (pc := 9) (v := 0) dX8_startFrom_9 (by decide) ?_
  refine V_bipush (pc := 10) (v := 8) dX8_startFrom_10 (by decide) ?_
  refine VW_copyN (pc := 12) (s' := 0) (d9 := 0) (n' := 8) dX8_startFrom_12 cX8_42 (by first | assumption | rfl) (by first | assumption | rfl) (by assumption) rfl rfl rfl (by decide) (by decide) (by decide) (by decide) (by omega) (Nat.le_of_ble_eq_true rfl) ?_
  refine V_aload_n (pc := 15) (i := 1) dX8_startFrom_15 rfl rfl ?_
  refine VW_getRN (pc := 16) dX8_startFrom_16 fX8_48 (by first | assumption | rfl) rfl ?_
  refine V_iconst (pc := 19) (v := 0) dX8_startFrom_19 (by decide) ?_
  refine V_aload_n (pc := 20) (i := 0) dX8_startFrom_20 rfl rfl ?_
  refine VW_getR (pc := 21) dX8_startFrom_21 fX8_15 (by first | assumption | rfl) rfl ?_
  refine V_iconst (pc := 24) (v := 0) dX8_startFrom_24 (by decide) ?_
  refine V_bipush (pc := 25) (v := 8) dX8_startFrom_25 (by decide) ?_
  refine VW_copyN (pc := 27) (s' := 0) (d9 := 0) (n' := 8) dX8_startFrom_27 cX8_42 (by first | assumption | rfl) (by first | assumption | rfl) (by assumption) rfl rfl rfl (by decide) (by decide) (by decide) (by decide) (by omega) (Nat.le_of_ble_eq_true rfl) ?_
  refine V_aload_n (pc := 30) (i := 1) dX8_startFrom_30 rfl rfl ?_
  refine VW_getRN (pc := 31) dX8_startFrom_31 fX8_51 (by first | assumption | rfl) rfl ?_
  refine V_iconst (pc := 34) (v := 0) dX8_startFrom_34 (by decide) ?_
  refine V_aload_n (pc := 35) (i := 0) dX8_startFrom_35 rfl rfl ?_
  refine VW_getR (pc := 36) dX8_startFrom_36 fX8_18 (by first | assumption | rfl) rfl ?_
  refine V_iconst (pc := 39) (v := 0) dX8_startFrom_39 (by decide) ?_
  refine V_bipush (pc := 40) (v := 8) dX8_startFrom_40 (by decide) ?_
  refine VW_copyN (pc := 42) (s' := 0) (d9 := 0) (n' := 8) dX8_startFrom_42 cX8_42 (by first | assumption | rfl) (by first | assumption | rfl) (by assumption) rfl rfl rfl (by decide) (by decide) (by decide) (by decide) (by omega) (Nat.le_of_ble_eq_true rfl) ?_
  simp (disch := omega) only [upR_row]
  refine V_aload_n (pc := 45) (i := 0) dX8_startFrom_45 rfl rfl ?_
  refine VW_getR (pc := 46) dX8_startFrom_46 fX8_21 (by first | assumption | rfl) rfl ?_
  refine V_iconst (pc := 49) (v := 0) dX8_startFrom_49 (by decide) ?_
  refine V_S2v (pc := 50) dX8_startFrom_50 cX8_54 (J7_fill (d := 0) k4 (by decide) hb _) (Nat.le_of_ble_eq_true rfl) (by omega) (Nat.le_of_ble_eq_true rfl) ?_
  simp (disch := omega) only [upR_row]
  refine V_aload_n (pc := 53) (i := 0) dX8_startFrom_53 rfl rfl ?_
  refine V_iconst (pc := 54) (v := 0) dX8_startFrom_54 (by decide) ?_
  refine VW_putI (pc := 55) dX8_startFrom_55 fX8_24 ftX8 (fpI rfl rfl (tyX8_ok 4 (by decide))) (by first | assumption | rfl) rfl (by assumption) ?_
  refine V_aload_n (pc := 58) (i := 0) dX8_startFrom_58 rfl rfl ?_
  refine V_aload_n (pc := 59) (i := 1) dX8_startFrom_59 rfl rfl ?_
  refine VW_getI (pc := 60) dX8_startFrom_60 fX8_60 (by first | assumption | rfl) rfl ?_
  simp (disch := omega) only [upR_row, up2_row]
  refine VW_putI (pc := 63) dX8_startFrom_63 fX8_28 ftX8 (fpI rfl rfl (tyX8_ok 5 (by decide))) (by first | assumption | rfl) rfl (by assumption) ?_
  refine V_aload_n (pc := 66) (i := 0) dX8_startFrom_66 rfl rfl ?_
  refine V_iconst (pc := 67) (v := 0) dX8_startFrom_67 (by decide) ?_
  refine VW_putI (pc := 68) dX8_startFrom_68 fX8_31 ftX8 (fpI rfl rfl (tyX8_ok 6 (by decide))) (by first | assumption | rfl) rfl (by assumption) ?_
  refine V_aload_n (pc := 71) (i := 0) dX8_startFrom_71 rfl rfl ?_
  refine V_iconst (pc := 72) (v := 0) dX8_startFrom_72 (by decide) ?_
  refine VW_putI (pc := 73) dX8_startFrom_73 fX8_34 ftX8 (fpI rfl rfl (tyX8_ok 7 (by decide))) (by first | assumption | rfl) rfl (by assumption) ?_
  exact VE_vret (pc := 76) dX8_startFrom_76 rfl rfl
/-- a state is written into a row of 36 from a on -/
def stWr (S : Nat → Nat → Int32) (k r a : Nat) : Nat → Nat → Int32 := up2 (up2 (up2 (up2 (upR (upR (upR (upR S r (va_cpy (S (k + 1)) (S r) 0 a 8)) r (va_cpy (S (k + 2)) (va_cpy (S (k + 1)) (S r) 0 a 8) 0 (a + 8) 8)) r (va_cpy (S (k + 3)) (va_cpy (S (k + 2)) (va_cpy (S (k + 1)) (S r) 0 a 8) 0 (a + 8) 8) 0 (a + 16) 8)) r (va_cpy (S (k + 4)) (va_cpy (S (k + 3)) (va_cpy (S (k + 2)) (va_cpy (S (k + 1)) (S r) 0 a 8) 0 (a + 8) 8) 0 (a + 16) 8) 0 (a + 24) 8)) r (a + 32) (S k 4)) r (a + 33) (S k 5)) r (a + 34) (S k 6)) r (a + 35) (S k 7)
theorem st_ix {a : Nat} (c x : Nat) (hx : c + x = 36) : nI a + 36 - nI x = nI (a + c) := by
  rw [show (36 : Int32) = nI 36 from rfl, nI_add, pk_sub (by omega)]
  congr 1
  omega
theorem X8_writeTo {k r a : Nat} (hs : StateAt tb k) (hr : tb[r]? = some (.inl (0, 1440))) (hkr : r < k ∨ k + 5 ≤ r) (ha : a ≤ 1404) (hb : gB G ≤ b) (hd : 1 ≤ d) : VM G mX8_writeTo d 0 0 [.ref (b + k), .ref (b + r), .int (nI a)] (xE none (wH G b tb (stWr S k r a) h0)) (wH G b tb S h0) := by
  obtain ⟨k0, k1, k2, k3, k4⟩ := hs
  refine VM_start (ls := [some (.ref (b + k)), some (.ref (b + r)), some (.int (nI a))]) rfl ?_
  -- %m X8_writeTo
  refine V_iload_n (pc := 0) (i := 2) dX8_writeTo_0 rfl rfl ?_
  refine V_if_lt (pc := 1) 13 dX8_writeTo_1 rfl (fun c1 => ?_) (fun c1 => ?_)
  · exact absurd c1 (nI_pos (by omega))
  · refine V_iload_n (pc := 4) (i := 2) dX8_writeTo_4 rfl rfl ?_
    refine V_aload_n (pc := 5) (i := 1) dX8_writeTo_5 rfl rfl ?_
    refine VW_alen (pc := 6) dX8_writeTo_6 (by first | assumption | rfl) (by decide) rfl ?_
    refine V_bipush (pc := 7) (v := 36) dX8_writeTo_7 (by decide) ?_
    refine V_isub (pc := 9) dX8_writeTo_9 ?_
    refine V_icmp_le (pc := 10) 14 dX8_writeTo_10 rfl (fun c10 => ?_) (fun c10 => ?_)
    · refine V_aload_n (pc := 14) (i := 0) dX8_writeTo_14 rfl rfl ?_
      refine VW_getR (pc := 15) dX8_writeTo_15 fX8_9 (by first | assumption | rfl) rfl ?_
      refine V_iconst (pc := 18) (v := 0) dX8_writeTo_18 (by decide) ?_
      refine V_aload_n (pc := 19) (i := 1) dX8_writeTo_19 rfl rfl ?_
      refine V_iload_n (pc := 20) (i := 2) dX8_writeTo_20 rfl rfl ?_
      refine V_bipush (pc := 21) (v := 8) dX8_writeTo_21 (by decide) ?_
      refine VW_copyN (pc := 23) (s' := 0) (d9 := a) (n' := 8) dX8_writeTo_23 cX8_42 (by first | assumption | rfl) (by first | assumption | rfl) (by assumption) rfl rfl rfl (by decide) (by omega) (by decide) (by decide) (by omega) (Nat.le_of_ble_eq_true rfl) ?_
      refine V_aload_n (pc := 26) (i := 0) dX8_writeTo_26 rfl rfl ?_
      refine VW_getR (pc := 27) dX8_writeTo_27 fX8_15 (by first | assumption | rfl) rfl ?_
      refine V_iconst (pc := 30) (v := 0) dX8_writeTo_30 (by decide) ?_
      refine V_aload_n (pc := 31) (i := 1) dX8_writeTo_31 rfl rfl ?_
      refine V_iload_n (pc := 32) (i := 2) dX8_writeTo_32 rfl rfl ?_
      refine V_bipush (pc := 33) (v := 8) dX8_writeTo_33 (by decide) ?_
      refine V_iadd (pc := 35) dX8_writeTo_35 ?_
      refine V_bipush (pc := 36) (v := 8) dX8_writeTo_36 (by decide) ?_
      refine VW_copyN (pc := 38) (s' := 0) (d9 := a + 8) (n' := 8) dX8_writeTo_38 cX8_42 (by first | assumption | rfl) (by first | assumption | rfl) (by assumption) rfl (nI_add a 8) rfl (by decide) (by omega) (by decide) (by decide) (by omega) (Nat.le_of_ble_eq_true rfl) ?_
      refine V_aload_n (pc := 41) (i := 0) dX8_writeTo_41 rfl rfl ?_
      refine VW_getR (pc := 42) dX8_writeTo_42 fX8_18 (by first | assumption | rfl) rfl ?_
      refine V_iconst (pc := 45) (v := 0) dX8_writeTo_45 (by decide) ?_
      refine V_aload_n (pc := 46) (i := 1) dX8_writeTo_46 rfl rfl ?_
      refine V_iload_n (pc := 47) (i := 2) dX8_writeTo_47 rfl rfl ?_
      refine V_bipush (pc := 48) (v := 16) dX8_writeTo_48 (by decide) ?_
      refine V_iadd (pc := 50) dX8_writeTo_50 ?_
      refine V_bipush (pc := 51) (v := 8) dX8_writeTo_51 (by decide) ?_
      refine VW_copyN (pc := 53) (s' := 0) (d9 := a + 16) (n' := 8) dX8_writeTo_53 cX8_42 (by first | assumption | rfl) (by first | assumption | rfl) (by assumption) rfl (nI_add a 16) rfl (by decide) (by omega) (by decide) (by decide) (by omega) (Nat.le_of_ble_eq_true rfl) ?_
      refine V_aload_n (pc := 56) (i := 0) dX8_writeTo_56 rfl rfl ?_
      refine VW_getR (pc := 57) dX8_writeTo_57 fX8_21 (by first | assumption | rfl) rfl ?_
      refine V_iconst (pc := 60) (v := 0) dX8_writeTo_60 (by decide) ?_
      refine V_aload_n (pc := 61) (i := 1) dX8_writeTo_61 rfl rfl ?_
      refine V_iload_n (pc := 62) (i := 2) dX8_writeTo_62 rfl rfl ?_
      refine V_bipush (pc := 63) (v := 24) dX8_writeTo_63 (by decide) ?_
      refine V_iadd (pc := 65) dX8_writeTo_65 ?_
      refine V_bipush (pc := 66) (v := 8) dX8_writeTo_66 (by decide) ?_
      refine VW_copyN (pc := 68) (s' := 0) (d9 := a + 24) (n' := 8) dX8_writeTo_68 cX8_42 (by first | assumption | rfl) (by first | assumption | rfl) (by assumption) rfl (nI_add a 24) rfl (by decide) (by omega) (by decide) (by decide) (by omega) (Nat.le_of_ble_eq_true rfl) ?_
      simp (disch := omega) only [upR_row, upR_same]
      refine V_aload_n (pc := 71) (i := 1) dX8_writeTo_71 rfl rfl ?_
      refine V_iload_n (pc := 72) (i := 2) dX8_writeTo_72 rfl rfl ?_
      refine V_bipush (pc := 73) (v := 36) dX8_writeTo_73 (by decide) ?_
      refine V_iadd (pc := 75) dX8_writeTo_75 ?_
      refine V_iconst (pc := 76) (v := 4) dX8_writeTo_76 (by decide) ?_
      refine V_isub (pc := 77) dX8_writeTo_77 ?_
      refine V_aload_n (pc := 78) (i := 0) dX8_writeTo_78 rfl rfl ?_
      refine VW_getI (pc := 79) dX8_writeTo_79 fX8_24 (by first | assumption | rfl) rfl ?_
      simp (disch := omega) only [upR_row, up2_row]
      refine VW_iastN (pc := 82) dX8_writeTo_82 (by first | assumption | rfl) (by assumption) (st_ix 32 4 (by decide)) (by omega) (by first | decide | omega) ?_
      refine V_aload_n (pc := 83) (i := 1) dX8_writeTo_83 rfl rfl ?_
      refine V_iload_n (pc := 84) (i := 2) dX8_writeTo_84 rfl rfl ?_
      refine V_bipush (pc := 85) (v := 36) dX8_writeTo_85 (by decide) ?_
      refine V_iadd (pc := 87) dX8_writeTo_87 ?_
      refine V_iconst (pc := 88) (v := 3) dX8_writeTo_88 (by decide) ?_
      refine V_isub (pc := 89) dX8_writeTo_89 ?_
      refine V_aload_n (pc := 90) (i := 0) dX8_writeTo_90 rfl rfl ?_
      refine VW_getI (pc := 91) dX8_writeTo_91 fX8_28 (by first | assumption | rfl) rfl ?_
      simp (disch := omega) only [upR_row, up2_row]
      refine VW_iastN (pc := 94) dX8_writeTo_94 (by first | assumption | rfl) (by assumption) (st_ix 33 3 (by decide)) (by omega) (by first | decide | omega) ?_
      refine V_aload_n (pc := 95) (i := 1) dX8_writeTo_95 rfl rfl ?_
      refine V_iload_n (pc := 96) (i := 2) dX8_writeTo_96 rfl rfl ?_
      refine V_bipush (pc := 97) (v := 36) dX8_writeTo_97 (by decide) ?_
      refine V_iadd (pc := 99) dX8_writeTo_99 ?_
      refine V_iconst (pc := 100) (v := 2) dX8_writeTo_100 (by decide) ?_
      refine V_isub (pc := 101) dX8_writeTo_101 ?_
      refine V_aload_n (pc := 102) (i := 0) dX8_writeTo_102 rfl rfl ?_
      refine VW_getI (pc := 103) dX8_writeTo_103 fX8_31 (by first | assumption | rfl) rfl ?_
      simp (disch := omega) only [upR_row, up2_row]
      refine VW_iastN (pc := 106) dX8_writeTo_106 (by first | assumption | rfl) (by assumption) (st_ix 34 2 (by decide)) (by omega) (by first | decide | omega) ?_
      refine V_aload_n (pc := 107) (i := 1) dX8_writeTo_107 rfl rfl ?_
      refine V_iload_n (pc := 108) (i := 2) dX8_writeTo_108 rfl rfl ?_
      refine V_bipush (pc := 109) (v := 36) dX8_writeTo_109 (by decide) ?_
      refine V_iadd (pc := 111) dX8_writeTo_111 ?_
      refine V_iconst (pc := 112) (v := 1) dX8_writeTo_112 (by decide) ?_
      refine V_isub (pc := 113) dX8_writeTo_113 ?_
      refine V_aload_n (pc := 114) (i := 0) dX8_writeTo_114 rfl rfl ?_
      refine VW_getI (pc := 115) dX8_writeTo_115 fX8_34 (by first | assumption | rfl) rfl ?_
      simp (disch := omega) only [upR_row, up2_row]
      refine VW_iastN (pc := 118) dX8_writeTo_118 (by first | assumption | rfl) (by assumption) (st_ix 35 1 (by decide)) (by omega) (by first | decide | omega) ?_
      exact VE_vret (pc := 119) dX8_writeTo_119 rfl rfl
    · exact absurd (nI_le (b := 1404) ha (by decide)) c10
def stRd (S : Nat → Nat → Int32) (k r a : Nat) : Nat → Nat → Int32 := up2 (up2 (up2 (up2 (upR (upR (upR (upR S (k + 1) (va_cpy (S r) (S (k + 1)) a 0 8)) (k + 2) (va_cpy (S r) (S (k + 2)) (a + 8) 0 8)) (k + 3) (va_cpy (S r) (S (k + 3)) (a + 16) 0 8)) (k + 4) (va_cpy (S r) (S (k + 4)) (a + 24) 0 8)) k 4 (S r (a + 32))) k 5 (S r (a + 33))) k 6 (S r (a + 34))) k 7 (S r (a + 35))
theorem X8_readFrom {k r a : Nat} (hs : StateAt tb k) (hr : tb[r]? = some (.inl (0, 1440))) (hkr : r < k ∨ k + 5 ≤ r) (ha : a ≤ 1404) (hb : gB G ≤ b) (hd : 1 ≤ d) : VM G mX8_readFrom d 0 0 [.ref (b + k), .ref (b + r), .int (nI a)] (xE none (wH G b tb (stRd S k r a) h0)) (wH G b tb S h0) := by
  obtain ⟨k0, k1, k2, k3, k4⟩ := hs
  refine VM_start (ls := [some (.ref (b + k)), some (.ref (b + r)), some (.int (nI a))]) rfl ?_
  -- %m X8_readFrom
  refine V_iload_n (pc := 0) (i := 2) dX8_readFrom_0 rfl rfl ?_
  refine V_if_lt (pc := 1) 13 dX8_readFrom_1 rfl (fun c1 => ?_) (fun c1 => ?_)
  · exact absurd c1 (nI_pos (by omega))
  · refine V_iload_n (pc := 4) (i := 2) dX8_readFrom_4 rfl rfl ?_
    refine V_aload_n (pc := 5) (i := 1) dX8_readFrom_5 rfl rfl ?_
    refine VW_alen (pc := 6) dX8_readFrom_6 (by first | assumption | rfl) (by decide) rfl ?_
    refine V_bipush (pc := 7) (v := 36) dX8_readFrom_7 (by decide) ?_
    refine V_isub (pc := 9) dX8_readFrom_9 ?_
    refine V_icmp_le (pc := 10) 14 dX8_readFrom_10 rfl (fun c10 => ?_) (fun c10 => ?_)
    · refine V_aload_n (pc := 14) (i := 1) dX8_readFrom_14 rfl rfl ?_
      refine V_iload_n (pc := 15) (i := 2) dX8_readFrom_15 rfl rfl ?_
      refine V_aload_n (pc := 16) (i := 0) dX8_readFrom_16 rfl rfl ?_
      refine VW_getR (pc := 17) dX8_readFrom_17 fX8_9 (by first | assumption | rfl) rfl ?_
      refine V_iconst (pc := 20) (v := 0) dX8_readFrom_20 (by decide) ?_
      refine V_bipush (pc := 21) (v := 8) dX8_readFrom_21 (by decide) ?_
      refine VW_copyN (pc := 23) (s' := a) (d9 := 0) (n' := 8) dX8_readFrom_23 cX8_42 (by first | assumption | rfl) (by first | assumption | rfl) (by assumption) rfl rfl rfl (by omega) (by decide) (by decide) (by decide) (by omega) (Nat.le_of_ble_eq_true rfl) ?_
      refine V_aload_n (pc := 26) (i := 1) dX8_readFrom_26 rfl rfl ?_
      refine V_iload_n (pc := 27) (i := 2) dX8_readFrom_27 rfl rfl ?_
      refine V_bipush (pc := 28) (v := 8) dX8_readFrom_28 (by decide) ?_
      refine V_iadd (pc := 30) dX8_readFrom_30 ?_
      refine V_aload_n (pc := 31) (i := 0) dX8_readFrom_31 rfl rfl ?_
      refine VW_getR (pc := 32) dX8_readFrom_32 fX8_15 (by first | assumption | rfl) rfl ?_
      refine V_iconst (pc := 35) (v := 0) dX8_readFrom_35 (by decide) ?_
      refine V_bipush (pc := 36) (v := 8) dX8_readFrom_36 (by decide) ?_
      refine VW_copyN (pc := 38) (s' := a + 8) (d9 := 0) (n' := 8) dX8_readFrom_38 cX8_42 (by first | assumption | rfl) (by first | assumption | rfl) (by assumption) (nI_add a 8) rfl rfl (by omega) (by decide) (by decide) (by decide) (by omega) (Nat.le_of_ble_eq_true rfl) ?_
      refine V_aload_n (pc := 41) (i := 1) dX8_readFrom_41 rfl rfl ?_
      refine V_iload_n (pc := 42) (i := 2) dX8_readFrom_42 rfl rfl ?_
      refine V_bipush (pc := 43) (v := 16) dX8_readFrom_43 (by decide) ?_
      refine V_iadd (pc := 45) dX8_readFrom_45 ?_
      refine V_aload_n (pc := 46) (i := 0) dX8_readFrom_46 rfl rfl ?_
      refine VW_getR (pc := 47) dX8_readFrom_47 fX8_18 (by first | assumption | rfl) rfl ?_
      refine V_iconst (pc := 50) (v := 0) dX8_readFrom_50 (by decide) ?_
      refine V_bipush (pc := 51) (v := 8) dX8_readFrom_51 (by decide) ?_
      refine VW_copyN (pc := 53) (s' := a + 16) (d9 := 0) (n' := 8) dX8_readFrom_53 cX8_42 (by first | assumption | rfl) (by first | assumption | rfl) (by assumption) (nI_add a 16) rfl rfl (by omega) (by decide) (by decide) (by decide) (by omega) (Nat.le_of_ble_eq_true rfl) ?_
      refine V_aload_n (pc := 56) (i := 1) dX8_readFrom_56 rfl rfl ?_
      refine V_iload_n (pc := 57) (i := 2) dX8_readFrom_57 rfl rfl ?_
      refine V_bipush (pc := 58) (v := 24) dX8_readFrom_58 (by decide) ?_
      refine V_iadd (pc := 60) dX8_readFrom_60 ?_
      refine V_aload_n (pc := 61) (i := 0) dX8_readFrom_61 rfl rfl ?_
      refine VW_getR (pc := 62) dX8_readFrom_62 fX8_21 (by first | assumption | rfl) rfl ?_
      refine V_iconst (pc := 65) (v := 0) dX8_readFrom_65 (by decide) ?_
      refine V_bipush (pc := 66) (v := 8) dX8_readFrom_66 (by decide) ?_
      refine VW_copyN (pc := 68) (s' := a + 24) (d9 := 0) (n' := 8) dX8_readFrom_68 cX8_42 (by first | assumption | rfl) (by first | assumption | rfl) (by assumption) (nI_add a 24) rfl rfl (by omega) (by decide) (by decide) (by decide) (by omega) (Nat.le_of_ble_eq_true rfl) ?_
      simp (disch := omega) only [upR_row]
      refine V_aload_n (pc := 71) (i := 0) dX8_readFrom_71 rfl rfl ?_
      refine V_aload_n (pc := 72) (i := 1) dX8_readFrom_72 rfl rfl ?_
      refine V_iload_n (pc := 73) (i := 2) dX8_readFrom_73 rfl rfl ?_
      refine V_bipush (pc := 74) (v := 36) dX8_readFrom_74 (by decide) ?_
      refine V_iadd (pc := 76) dX8_readFrom_76 ?_
      refine V_iconst (pc := 77) (v := 4) dX8_readFrom_77 (by decide) ?_
      refine V_isub (pc := 78) dX8_readFrom_78 ?_
      refine VW_ialdN (pc := 79) dX8_readFrom_79 (by first | assumption | rfl) (st_ix 32 4 (by decide)) (by omega) (by first | decide | omega) ?_
      simp (disch := omega) only [upR_row, up2_row]
      refine VW_putI (pc := 80) dX8_readFrom_80 fX8_24 ftX8 (fpI rfl rfl (tyX8_ok 4 (by decide))) (by first | assumption | rfl) rfl (by assumption) ?_
      refine V_aload_n (pc := 83) (i := 0) dX8_readFrom_83 rfl rfl ?_
      refine V_aload_n (pc := 84) (i := 1) dX8_readFrom_84 rfl rfl ?_
      refine V_iload_n (pc := 85) (i := 2) dX8_readFrom_85 rfl rfl ?_
      refine V_bipush (pc := 86) (v := 36) dX8_readFrom_86 (by decide) ?_
      refine V_iadd (pc := 88) dX8_readFrom_88 ?_
      refine V_iconst (pc := 89) (v := 3) dX8_readFrom_89 (by decide) ?_
      refine V_isub (pc := 90) dX8_readFrom_90 ?_
      refine VW_ialdN (pc := 91) dX8_readFrom_91 (by first | assumption | rfl) (st_ix 33 3 (by decide)) (by omega) (by first | decide | omega) ?_
      simp (disch := omega) only [upR_row, up2_row]
      refine VW_putI (pc := 92) dX8_readFrom_92 fX8_28 ftX8 (fpI rfl rfl (tyX8_ok 5 (by decide))) (by first | assumption | rfl) rfl (by assumption) ?_
      refine V_aload_n (pc := 95) (i := 0) dX8_readFrom_95 rfl rfl ?_
      refine V_aload_n (pc := 96) (i := 1) dX8_readFrom_96 rfl rfl ?_
      refine V_iload_n (pc := 97) (i := 2) dX8_readFrom_97 rfl rfl ?_
      refine V_bipush (pc := 98) (v := 36) dX8_readFrom_98 (by decide) ?_
      refine V_iadd (pc := 100) dX8_readFrom_100 ?_
      refine V_iconst (pc := 101) (v := 2) dX8_readFrom_101 (by decide) ?_
      refine V_isub (pc := 102) dX8_readFrom_102 ?_
      refine VW_ialdN (pc := 103) dX8_readFrom_103 (by first | assumption | rfl) (st_ix 34 2 (by decide)) (by omega) (by first | decide | omega) ?_
      simp (disch := omega) only [upR_row, up2_row]
      refine VW_putI (pc := 104) dX8_readFrom_104 fX8_31 ftX8 (fpI rfl rfl (tyX8_ok 6 (by decide))) (by first | assumption | rfl) rfl (by assumption) ?_
      refine V_aload_n (pc := 107) (i := 0) dX8_readFrom_107 rfl rfl ?_
      refine V_aload_n (pc := 108) (i := 1) dX8_readFrom_108 rfl rfl ?_
      refine V_iload_n (pc := 109) (i := 2) dX8_readFrom_109 rfl rfl ?_
      refine V_bipush (pc := 110) (v := 36) dX8_readFrom_110 (by decide) ?_
      refine V_iadd (pc := 112) dX8_readFrom_112 ?_
      refine V_iconst (pc := 113) (v := 1) dX8_readFrom_113 (by decide) ?_
      refine V_isub (pc := 114) dX8_readFrom_114 ?_
      refine VW_ialdN (pc := 115) dX8_readFrom_115 (by first | assumption | rfl) (st_ix 35 1 (by decide)) (by omega) (by first | decide | omega) ?_
      simp (disch := omega) only [upR_row, up2_row]
      refine VW_putI (pc := 116) dX8_readFrom_116 fX8_34 ftX8 (fpI rfl rfl (tyX8_ok 7 (by decide))) (by first | assumption | rfl) rfl (by assumption) ?_
      exact VE_vret (pc := 119) dX8_readFrom_119 rfl rfl
    · exact absurd (nI_le (b := 1404) ha (by decide)) c10
-- Acts
theorem X0_clear {k : Nat} (hs : ActsAt tb k) (hb : gB G ≤ b) : VM G mX0_clear d 0 0 [.ref (b + k)] (xE none (wH G b tb (up2 S k 2 0) h0)) (wH G b tb S h0) := by
  obtain ⟨k0, k1⟩ := hs
  refine VM_start (ls := [some (.ref (b + k))]) rfl ?_
  -- %m X0_clear
  refine V_aload_n (pc := 0) (i := 0) dX0_clear_0 rfl rfl ?_
  refine V_iconst (pc := 1) (v := 0) dX0_clear_1 (by decide) ?_
  refine VW_putI (pc := 2) dX0_clear_2 fX0_21 ftX0 (fpI rfl rfl (tyX0_ok 2 (by decide))) (by first | assumption | rfl) rfl (by assumption) ?_
  exact VE_vret (pc := 5) dX0_clear_5 rfl rfl
def actKeep (S : Nat → Nat → Int32) (k s o n : Nat) : Nat → Nat → Int32 := if n < 40 then up2 (stWr S s (k + 1) ((o + n) % 40 * 36)) k 2 (nI n + 1) else up2 (stWr S s (k + 1) ((o + n) % 40 * 36)) k 1 (nI ((o + 1) % 40))
theorem act_ix {o n : Nat} (ho : o < 40) (hn : n ≤ 40) : (nI o + nI n - (nI o + nI n) / 40 * 40) * 36 = nI ((o + n) % 40 * 36) := by
  have e := pk_rem (a := o + n) (d := 40) (by omega) (by omega) (by omega)
  rw [nI_add]
  show (nI (o + n) - nI (o + n) / nI 40 * nI 40) * nI 36 = _
  rw [e, pk_mul]
theorem stWr_off {k r a k' : Nat} (h : k' ≠ r) : stWr S k r a k' = S k' := by
  simp (disch := omega) only [stWr, up2_row, upR_row]
theorem X0_keep {k s o n : Nat} (hk : ActsAt tb k) (hs : StateAt tb s) (hks : s + 5 ≤ k ∨ k + 2 ≤ s) (h1 : S k 1 = nI o) (h2 : S k 2 = nI n) (ho : o < 40) (hn : n ≤ 40) (hb : gB G ≤ b) (hd : 2 ≤ d) : VM G mX0_keep d 0 0 [.ref (b + k), .ref (b + s)] (xE none (wH G b tb (actKeep S k s o n) h0)) (wH G b tb S h0) := by
  obtain ⟨k0, k1⟩ := hk
  have hlt : (o + n) % 40 < 40 := Nat.mod_lt _ (by omega)
  obtain ⟨s0, s1, s2, s3, s4⟩ := id hs
  refine VM_start (ls := [some (.ref (b + k)), some (.ref (b + s))]) rfl ?_
  -- %m X0_keep
  refine V_aload_n (pc := 0) (i := 1) dX0_keep_0 rfl rfl ?_
  refine V_aload_n (pc := 1) (i := 0) dX0_keep_1 rfl rfl ?_
  refine VW_getR (pc := 2) dX0_keep_2 fX0_11 (by first | assumption | rfl) rfl ?_
  refine V_aload_n (pc := 5) (i := 0) dX0_keep_5 rfl rfl ?_
  refine VW_getI (pc := 6) dX0_keep_6 fX0_17 (by first | assumption | rfl) rfl ?_
  refine V_aload_n (pc := 9) (i := 0) dX0_keep_9 rfl rfl ?_
  refine VW_getI (pc := 10) dX0_keep_10 fX0_21 (by first | assumption | rfl) rfl ?_
  rw [h1, h2]
  refine V_iadd (pc := 13) dX0_keep_13 ?_
  refine V_bipush (pc := 14) (v := 40) dX0_keep_14 (by decide) ?_
  refine V_irem (pc := 16) dX0_keep_16 (by decide) ?_
  refine V_bipush (pc := 17) (v := 36) dX0_keep_17 (by decide) ?_
  refine V_imul (pc := 19) dX0_keep_19 ?_
  rw [act_ix ho hn]
  refine V_V2v (pc := 20) dX0_keep_20 cX0_24 (by first | assumption | rfl) (X8_writeTo (d := 1) hs k1 (by omega) (by omega) hb (by omega)) (Nat.le_of_ble_eq_true rfl) (by omega) (Nat.le_of_ble_eq_true rfl) ?_
  refine V_aload_n (pc := 23) (i := 0) dX0_keep_23 rfl rfl ?_
  refine VW_getI (pc := 24) dX0_keep_24 fX0_21 (by first | assumption | rfl) rfl ?_
  simp (disch := omega) only [stWr_off, h2]
  refine V_bipush (pc := 27) (v := 40) dX0_keep_27 (by decide) ?_
  refine V_icmp_ge (pc := 29) 45 dX0_keep_29 rfl (fun c29 => ?_) (fun c29 => ?_)
  · have hn40 : ¬ n < 40 := fun q => nI_ge q (by omega) (show nI 40 ≤ nI n from c29)
    rw [actKeep, if_neg hn40]
    refine V_aload_n (pc := 45) (i := 0) dX0_keep_45 rfl rfl ?_
    refine V_aload_n (pc := 46) (i := 0) dX0_keep_46 rfl rfl ?_
    refine VW_getI (pc := 47) dX0_keep_47 fX0_17 (by first | assumption | rfl) rfl ?_
    simp (disch := omega) only [stWr_off, h1]
    refine V_iconst (pc := 50) (v := 1) dX0_keep_50 (by decide) ?_
    refine V_iadd (pc := 51) dX0_keep_51 ?_
    refine V_bipush (pc := 52) (v := 40) dX0_keep_52 (by decide) ?_
    refine V_irem (pc := 54) dX0_keep_54 (by decide) ?_
    have e := pk_rem (a := o + 1) (d := 40) (by omega) (by omega) (by omega)
    rw [show nI o + 1 - (nI o + 1) / 40 * 40 = nI ((o + 1) % 40) from by rw [← e, ← nI_1]; rfl]
    refine VW_putI (pc := 55) dX0_keep_55 fX0_17 ftX0 (fpI rfl rfl (tyX0_ok 1 (by decide))) (by first | assumption | rfl) rfl (by assumption) ?_
    exact VE_vret (pc := 58) dX0_keep_58 rfl rfl
  · have hn40 : n < 40 := Nat.not_le.mp (fun q => c29 (nI_le (a := 40) q (by omega)))
    rw [actKeep, if_pos hn40]
    refine V_aload_n (pc := 32) (i := 0) dX0_keep_32 rfl rfl ?_
    refine V_dup (pc := 33) dX0_keep_33 rfl ?_
    refine VW_getI (pc := 34) dX0_keep_34 fX0_21 (by first | assumption | rfl) rfl ?_
    simp (disch := omega) only [stWr_off, h2]
    refine V_iconst (pc := 37) (v := 1) dX0_keep_37 (by decide) ?_
    refine V_iadd (pc := 38) dX0_keep_38 ?_
    refine VW_putI (pc := 39) dX0_keep_39 fX0_21 ftX0 (fpI rfl rfl (tyX0_ok 2 (by decide))) (by first | assumption | rfl) rfl (by assumption) ?_
    refine V_goto (pc := 42) 58 dX0_keep_42 rfl ?_
    exact VE_vret (pc := 58) dX0_keep_58 rfl rfl
def actBack (S : Nat → Nat → Int32) (k s o n : Nat) : Nat → Nat → Int32 := stRd (up2 S k 2 (nI n)) s (k + 1) ((o + n) % 40 * 36)
theorem X0_takeBack_none {k : Nat} (hk : ActsAt tb k) (h2 : S k 2 = 0) (s : Nat) : VM G mX0_takeBack d 0 0 [.ref (b + k), .ref (b + s)] (xE (some (.int 0)) (wH G b tb S h0)) (wH G b tb S h0) := by
  obtain ⟨k0, k1⟩ := hk
  refine VM_start (ls := [some (.ref (b + k)), some (.ref (b + s))]) rfl ?_
  -- %m X0_takeBack
  refine V_aload_n (pc := 0) (i := 0) dX0_takeBack_0 rfl rfl ?_
  refine VW_getI (pc := 1) dX0_takeBack_1 fX0_21 (by first | assumption | rfl) rfl ?_
  refine V_if_ne (pc := 4) 9 dX0_takeBack_4 rfl (fun c4 => ?_) (fun c4 => ?_)
  · exact absurd h2 c4
  · refine V_iconst (pc := 7) (v := 0) dX0_takeBack_7 (by decide) ?_
    exact VE_zret (pc := 8) dX0_takeBack_8 rfl (Or.inl rfl) rfl rfl
theorem X0_takeBack {k s o n : Nat} (hk : ActsAt tb k) (hs : StateAt tb s) (hks : s + 5 ≤ k ∨ k + 2 ≤ s) (h1 : S k 1 = nI o) (h2 : S k 2 = nI (n + 1)) (ho : o < 40) (hn : n < 40) (hb : gB G ≤ b) (hd : 2 ≤ d) : VM G mX0_takeBack d 0 0 [.ref (b + k), .ref (b + s)] (xE (some (.int 1)) (wH G b tb (actBack S k s o n) h0)) (wH G b tb S h0) := by
  obtain ⟨k0, k1⟩ := hk
  have hlt : (o + n) % 40 < 40 := Nat.mod_lt _ (by omega)
  obtain ⟨s0, s1, s2, s3, s4⟩ := id hs
  refine VM_start (ls := [some (.ref (b + k)), some (.ref (b + s))]) rfl ?_
  -- %m X0_takeBack
  refine V_aload_n (pc := 0) (i := 0) dX0_takeBack_0 rfl rfl ?_
  refine VW_getI (pc := 1) dX0_takeBack_1 fX0_21 (by first | assumption | rfl) rfl ?_
  refine V_if_ne (pc := 4) 9 dX0_takeBack_4 rfl (fun c4 => ?_) (fun c4 => ?_)
  · refine V_aload_n (pc := 9) (i := 0) dX0_takeBack_9 rfl rfl ?_
    refine V_dup (pc := 10) dX0_takeBack_10 rfl ?_
    refine VW_getI (pc := 11) dX0_takeBack_11 fX0_21 (by first | assumption | rfl) rfl ?_
    rw [h2]
    refine V_iconst (pc := 14) (v := 1) dX0_takeBack_14 (by decide) ?_
    refine V_isub (pc := 15) dX0_takeBack_15 ?_
    rw [nI_pred]
    refine VW_putI (pc := 16) dX0_takeBack_16 fX0_21 ftX0 (fpI rfl rfl (tyX0_ok 2 (by decide))) (by first | assumption | rfl) rfl (by assumption) ?_
    refine V_aload_n (pc := 19) (i := 1) dX0_takeBack_19 rfl rfl ?_
    refine V_aload_n (pc := 20) (i := 0) dX0_takeBack_20 rfl rfl ?_
    refine VW_getR (pc := 21) dX0_takeBack_21 fX0_11 (by first | assumption | rfl) rfl ?_
    refine V_aload_n (pc := 24) (i := 0) dX0_takeBack_24 rfl rfl ?_
    refine VW_getI (pc := 25) dX0_takeBack_25 fX0_17 (by first | assumption | rfl) rfl ?_
    refine V_aload_n (pc := 28) (i := 0) dX0_takeBack_28 rfl rfl ?_
    refine VW_getI (pc := 29) dX0_takeBack_29 fX0_21 (by first | assumption | rfl) rfl ?_
    simp (disch := omega) only [up2_same, up2_col, h1]
    refine V_iadd (pc := 32) dX0_takeBack_32 ?_
    refine V_bipush (pc := 33) (v := 40) dX0_takeBack_33 (by decide) ?_
    refine V_irem (pc := 35) dX0_takeBack_35 (by decide) ?_
    refine V_bipush (pc := 36) (v := 36) dX0_takeBack_36 (by decide) ?_
    refine V_imul (pc := 38) dX0_takeBack_38 ?_
    rw [act_ix ho (by omega)]
    refine V_V2v (pc := 39) dX0_takeBack_39 cX0_28 (by first | assumption | rfl) (X8_readFrom (d := 1) hs k1 (by omega) (by omega) hb (by omega)) (Nat.le_of_ble_eq_true rfl) (by omega) (Nat.le_of_ble_eq_true rfl) ?_
    refine V_iconst (pc := 42) (v := 1) dX0_takeBack_42 (by decide) ?_
    exact VE_zret (pc := 43) dX0_takeBack_43 rfl (Or.inr rfl) rfl rfl
  · exact absurd c4 (by rw [h2]; exact nI_ne0 (by omega) (by omega))
def actCp (S : Nat → Nat → Int32) (k o : Nat) : Nat → Nat → Int32 := up2 (up2 (upR S (k + 1) (va_cpy (S (o + 1)) (S (k + 1)) 0 0 1440)) k 1 (S o 1)) k 2 (S o 2)
theorem X0_copyFrom {k o : Nat} (hk : ActsAt tb k) (ho : ActsAt tb o) (hko : k + 2 ≤ o ∨ o + 2 ≤ k) (hb : gB G ≤ b) (hd : 1 ≤ d) : VM G mX0_copyFrom d 0 0 [.ref (b + k), .ref (b + o)] (xE none (wH G b tb (actCp S k o) h0)) (wH G b tb S h0) := by
  obtain ⟨k0, k1⟩ := hk
  obtain ⟨o0, o1⟩ := ho
  refine VM_start (ls := [some (.ref (b + k)), some (.ref (b + o))]) rfl ?_
  -- %m X0_copyFrom
  refine V_aload_n (pc := 0) (i := 1) dX0_copyFrom_0 rfl rfl ?_
  refine VW_getR (pc := 1) dX0_copyFrom_1 fX0_11 (by first | assumption | rfl) rfl ?_
  refine V_iconst (pc := 4) (v := 0) dX0_copyFrom_4 (by decide) ?_
  refine V_aload_n (pc := 5) (i := 0) dX0_copyFrom_5 rfl rfl ?_
  refine VW_getR (pc := 6) dX0_copyFrom_6 fX0_11 (by first | assumption | rfl) rfl ?_
  refine V_iconst (pc := 9) (v := 0) dX0_copyFrom_9 (by decide) ?_
  refine V_aload_n (pc := 10) (i := 0) dX0_copyFrom_10 rfl rfl ?_
  refine VW_getR (pc := 11) dX0_copyFrom_11 fX0_11 (by first | assumption | rfl) rfl ?_
  refine VW_alen (pc := 14) dX0_copyFrom_14 (by first | assumption | rfl) (by decide) rfl ?_
  refine VW_copyN (pc := 15) (s' := 0) (d9 := 0) (n' := 1440) dX0_copyFrom_15 cX0_31 (by first | assumption | rfl) (by first | assumption | rfl) (by assumption) rfl rfl rfl (by decide) (by decide) (by decide) (by decide) (by omega) (Nat.le_of_ble_eq_true rfl) ?_
  refine V_aload_n (pc := 18) (i := 0) dX0_copyFrom_18 rfl rfl ?_
  refine V_aload_n (pc := 19) (i := 1) dX0_copyFrom_19 rfl rfl ?_
  refine VW_getI (pc := 20) dX0_copyFrom_20 fX0_17 (by first | assumption | rfl) rfl ?_
  simp (disch := omega) only [upR_row]
  refine VW_putI (pc := 23) dX0_copyFrom_23 fX0_17 ftX0 (fpI rfl rfl (tyX0_ok 1 (by decide))) (by first | assumption | rfl) rfl (by assumption) ?_
  refine V_aload_n (pc := 26) (i := 0) dX0_copyFrom_26 rfl rfl ?_
  refine V_aload_n (pc := 27) (i := 1) dX0_copyFrom_27 rfl rfl ?_
  refine VW_getI (pc := 28) dX0_copyFrom_28 fX0_21 (by first | assumption | rfl) rfl ?_
  simp (disch := omega) only [upR_row, up2_row]
  refine VW_putI (pc := 31) dX0_copyFrom_31 fX0_21 ftX0 (fpI rfl rfl (tyX0_ok 2 (by decide))) (by first | assumption | rfl) rfl (by assumption) ?_
  exact VE_vret (pc := 34) dX0_copyFrom_34 rfl rfl
end St
