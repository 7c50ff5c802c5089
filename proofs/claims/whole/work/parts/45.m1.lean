/-! ===== the model: its cells; bits ===== -/
def tbM : xTb := [.inr (12, [3, 4, 0, 5, 6, 7, 8, 9, 10, 11, 12, 13, 14, 15, 16, 17, 0, 0, 0, 0, 0, 0, 0, 0, 0, 0, 0, 18, 19, 20, 21, 22, 0, 0, 0, 0, 0, 0, 23, 24, 0, 25, 26, 27, 28, 29, 30, 0, 0, 0, 0, 31, 32, 33, 34, 35, 36]), .inl (30, 2), .inl (32, 7), .inl (0, 8), .inl (0, 20), .inl (0, 16), .inl (0, 16), .inl (0, 16), .inl (0, 16), .inl (0, 24), .inl (0, 24), .inl (0, 24), .inl (0, 24), .inl (0, 1400), .inl (0, 3), .inl (0, 700), .inl (0, 8), .inl (0, 8), .inl (0, 8), .inl (0, 8), .inl (0, 1440), .inl (0, 7), .inl (0, 64), .inl (0, 36), .inl (0, 1024), .inl (0, 1024), .inl (0, 8), .inl (0, 8), .inl (2, 8), .inl (0, 36), .inl (0, 1440), .inl (0, 8), .inl (0, 8), .inl (0, 3), .inl (2, 8)]
section M1
variable {G : xG} {d : Nat} {b : Nat} {S : Nat → Nat → Int32} {h0 h : xH}
theorem and1 (x : Int32) : x &&& 1 = 0 ∨ x &&& 1 = 1 := by
  obtain ⟨j, hj, e⟩ := pk_andE x (m := 1) 1 (by decide)
  rcases (show j = 0 ∨ j = 1 by omega) with q | q
  · exact Or.inl (by rw [e, q]; rfl)
  · exact Or.inr (by rw [e, q]; rfl)
theorem shr1 (x k : Int32) : (x >>> (k &&& 31)) &&& 1 = b2i (hasB x k) := by
  unfold hasB b2i
  rcases and1 (x >>> (k &&& 31)) with q | q <;> rw [q] <;> decide
theorem X12_isOf (x k : Int32) : VM G mX12_isOf d 0 0 [.int x, .int k] (xE (some (.int (b2i (hasB x k)))) h) h := by
  refine VM_start (ls := [some (.int x), some (.int k)]) rfl ?_
  rw [← shr1]
  -- %m X12_isOf
  refine V_iload_n (pc := 0) (i := 0) dX12_isOf_0 rfl rfl ?_
  refine V_iload_n (pc := 1) (i := 1) dX12_isOf_1 rfl rfl ?_
  refine V_ishr (pc := 2) dX12_isOf_2 ?_
  refine V_iconst (pc := 3) (v := 1) dX12_isOf_3 (by decide) ?_
  refine V_iand (pc := 4) dX12_isOf_4 ?_
  refine V_iconst (pc := 5) (v := 1) dX12_isOf_5 (by decide) ?_
  refine V_icmp_ne (pc := 6) 13 dX12_isOf_6 rfl (fun c6 => ?_) (fun c6 => ?_)
  · refine V_iconst (pc := 13) (v := 0) dX12_isOf_13 (by decide) ?_
    exact VE_zret (pc := 14) dX12_isOf_14 rfl (by first | exact Or.inl rfl | exact Or.inr rfl) (by first | exact c6.symm | exact ((and1 _).resolve_right c6).symm) rfl
  · refine V_iconst (pc := 9) (v := 1) dX12_isOf_9 (by decide) ?_
    refine V_goto (pc := 10) 14 dX12_isOf_10 rfl ?_
    exact VE_zret (pc := 14) dX12_isOf_14 rfl (by first | exact Or.inl rfl | exact Or.inr rfl) (by first | exact c6.symm | exact ((and1 _).resolve_right c6).symm) rfl
/-- between two numbers -/
def inL (x l m : Int64) : Bool := !decide (x < l) && !decide (m < x)
def inR (x l m : Int32) : Bool := !decide (x < l) && !decide (m < x)
theorem l_lt (x y : Int32) : x.toInt64 < y.toInt64 ↔ x < y := by rw [Int64.lt_iff_toInt_lt, Int32.lt_iff_toInt_lt, Int32.toInt_toInt64, Int32.toInt_toInt64]
theorem inL_R (x l m : Int32) : inL x.toInt64 l.toInt64 m.toInt64 = inR x l m := by
  unfold inL inR
  rw [decide_eq_decide.mpr (l_lt x l), decide_eq_decide.mpr (l_lt m x)]
theorem X12_isIn (x l m : Int64) : VM G mX12_isIn d 0 0 [.long x, .long l, .long m] (xE (some (.int (b2i (inL x l m)))) h) h := by
  refine VM_start (ls := [some (.long x), none, some (.long l), none, some (.long m), none]) rfl ?_
  -- %m X12_isIn
  refine V_lload_n (pc := 0) (i := 0) dX12_isIn_0 rfl rfl ?_
  refine V_lload_n (pc := 1) (i := 2) dX12_isIn_1 rfl rfl ?_
  refine V_lcmp (pc := 2) dX12_isIn_2 ?_
  refine V_if_lt (pc := 3) 17 dX12_isIn_3 rfl (fun c3 => ?_) (fun c3 => ?_)
  · have e := (lg_cmp_lt x l).mp c3
    refine V_iconst (pc := 17) (v := 0) dX12_isIn_17 (by decide) ?_
    exact VE_zret (pc := 18) dX12_isIn_18 rfl (Or.inl rfl) (by simp [inL, e, b2i]) rfl
  · have e : ¬ x < l := fun q => c3 ((lg_cmp_lt x l).mpr q)
    refine V_lload_n (pc := 6) (i := 0) dX12_isIn_6 rfl rfl ?_
    refine V_lload (pc := 7) dX12_isIn_7 rfl ?_
    refine V_lcmp (pc := 9) dX12_isIn_9 ?_
    refine V_if_gt (pc := 10) 17 dX12_isIn_10 rfl (fun c10 => ?_) (fun c10 => ?_)
    · have e2 := (lg_cmp_gt x m).mp c10
      refine V_iconst (pc := 17) (v := 0) dX12_isIn_17 (by decide) ?_
      exact VE_zret (pc := 18) dX12_isIn_18 rfl (Or.inl rfl) (by simp [inL, e2, b2i]) rfl
    · have e2 : ¬ m < x := fun q => c10 ((lg_cmp_gt x m).mpr q)
      refine V_iconst (pc := 13) (v := 1) dX12_isIn_13 (by decide) ?_
      refine V_goto (pc := 14) 18 dX12_isIn_14 rfl ?_
      exact VE_zret (pc := 18) dX12_isIn_18 rfl (Or.inr rfl) (by simp [inL, e, e2, b2i]) rfl
theorem X12_isInR (x l m : Int32) : VM G mX12_isIn d 0 0 [.long x.toInt64, .long l.toInt64, .long m.toInt64] (xE (some (.int (b2i (inR x l m)))) h) h := by
  rw [← inL_R]
  exact X12_isIn _ _ _
theorem X12_isThing (x : Int32) (hd : 1 ≤ d) : VM G mX12_isThing d 0 0 [.int x] (xE (some (.int (b2i (inR x 0 9)))) h) h := by
  refine VM_start (ls := [some (.int x)]) rfl ?_
  rw [← inL_R]
  -- %m X12_isThing
  refine V_iload_n (pc := 0) (i := 0) dX12_isThing_0 rfl rfl ?_
  refine V_i2l (pc := 1) dX12_isThing_1 rfl ?_
  refine V_lconst (pc := 2) (v := 0) dX12_isThing_2 (by decide) ?_
  refine V_ldc2 (pc := 3) dX12_isThing_3 lX12_146 ?_
  refine V_S3i (pc := 6) dX12_isThing_6 cX12_142 (X12_isIn (d := 0) _ _ _) (Nat.le_of_ble_eq_true rfl) (by omega) (Nat.le_of_ble_eq_true rfl) ?_
  exact VE_zret (pc := 9) dX12_isThing_9 rfl (b2i_01 _) rfl rfl
theorem X12_isSet (x : Int32) (hd : 1 ≤ d) : VM G mX12_isSet d 0 0 [.int x] (xE (some (.int (b2i (inR x 0 1023)))) h) h := by
  refine VM_start (ls := [some (.int x)]) rfl ?_
  rw [← inL_R]
  -- %m X12_isSet
  refine V_iload_n (pc := 0) (i := 0) dX12_isSet_0 rfl rfl ?_
  refine V_i2l (pc := 1) dX12_isSet_1 rfl ?_
  refine V_lconst (pc := 2) (v := 0) dX12_isSet_2 (by decide) ?_
  refine V_ldc2 (pc := 3) dX12_isSet_3 lX12_148 ?_
  refine V_S3i (pc := 6) dX12_isSet_6 cX12_142 (X12_isIn (d := 0) _ _ _) (Nat.le_of_ble_eq_true rfl) (by omega) (Nat.le_of_ble_eq_true rfl) ?_
  exact VE_zret (pc := 9) dX12_isSet_9 rfl (b2i_01 _) rfl rfl
theorem X12_isPerson (x : Int32) (hd : 1 ≤ d) : VM G mX12_isPerson d 0 0 [.ref (b + 0), .int x] (xE (some (.int (b2i (inR x 0 (S 3 0 - 1))))) (wH G b tbM S h0)) (wH G b tbM S h0) := by
  refine VM_start (ls := [some (.ref (b + 0)), some (.int x)]) rfl ?_
  rw [← inL_R]
  -- %m X12_isPerson
  refine V_iload_n (pc := 0) (i := 1) dX12_isPerson_0 rfl rfl ?_
  refine V_i2l (pc := 1) dX12_isPerson_1 rfl ?_
  refine V_lconst (pc := 2) (v := 0) dX12_isPerson_2 (by decide) ?_
  refine V_aload_n (pc := 3) (i := 0) dX12_isPerson_3 rfl rfl ?_
  refine VW_getR (pc := 4) dX12_isPerson_4 fX12_36 (by first | assumption | rfl) rfl ?_
  refine V_iconst (pc := 7) (v := 0) dX12_isPerson_7 (by decide) ?_
  refine VW_ialdN (pc := 8) dX12_isPerson_8 (by first | assumption | rfl) (j := 0) rfl (by decide) (by first | decide | omega) ?_
  refine V_iconst (pc := 9) (v := 1) dX12_isPerson_9 (by decide) ?_
  refine V_isub (pc := 10) dX12_isPerson_10 ?_
  refine V_i2l (pc := 11) dX12_isPerson_11 rfl ?_
  refine V_S3i (pc := 12) dX12_isPerson_12 cX12_142 (X12_isIn (d := 0) _ _ _) (Nat.le_of_ble_eq_true rfl) (by omega) (Nat.le_of_ble_eq_true rfl) ?_
  exact VE_zret (pc := 15) dX12_isPerson_15 rfl (b2i_01 _) rfl rfl
theorem X12_isIf (x : Int32) (hd : 1 ≤ d) : VM G mX12_isIf d 0 0 [.ref (b + 0), .int x] (xE (some (.int (b2i (inR x 0 (S 3 1 - 1))))) (wH G b tbM S h0)) (wH G b tbM S h0) := by
  refine VM_start (ls := [some (.ref (b + 0)), some (.int x)]) rfl ?_
  rw [← inL_R]
  -- %m X12_isIf
  refine V_iload_n (pc := 0) (i := 1) dX12_isIf_0 rfl rfl ?_
  refine V_i2l (pc := 1) dX12_isIf_1 rfl ?_
  refine V_lconst (pc := 2) (v := 0) dX12_isIf_2 (by decide) ?_
  refine V_aload_n (pc := 3) (i := 0) dX12_isIf_3 rfl rfl ?_
  refine VW_getR (pc := 4) dX12_isIf_4 fX12_36 (by first | assumption | rfl) rfl ?_
  refine V_iconst (pc := 7) (v := 1) dX12_isIf_7 (by decide) ?_
  refine VW_ialdN (pc := 8) dX12_isIf_8 (by first | assumption | rfl) (j := 1) rfl (by decide) (by first | decide | omega) ?_
  refine V_iconst (pc := 9) (v := 1) dX12_isIf_9 (by decide) ?_
  refine V_isub (pc := 10) dX12_isIf_10 ?_
  refine V_i2l (pc := 11) dX12_isIf_11 rfl ?_
  refine V_S3i (pc := 12) dX12_isIf_12 cX12_142 (X12_isIn (d := 0) _ _ _) (Nat.le_of_ble_eq_true rfl) (by omega) (Nat.le_of_ble_eq_true rfl) ?_
  exact VE_zret (pc := 15) dX12_isIf_15 rfl (b2i_01 _) rfl rfl
theorem inR_in {k m : Nat} (h : k ≤ m) (hm : m < 2 ^ 31) : inR (nI k) 0 (nI m) = true := by
  simp [inR, Int32.not_lt.mp (nI_pos (n := k) (by omega)), Int32.not_lt.mp (nI_nlt h hm)]
theorem inR_pp {q n : Nat} (h : q < n) (hn : n < 2 ^ 31) : inR (nI q) 0 (nI n - 1) = true := by
  rw [show nI n - 1 = nI (n - 1) from by obtain ⟨k, rfl⟩ := Nat.exists_eq_succ_of_ne_zero (show n ≠ 0 by omega); exact nI_pred k]
  exact inR_in (by omega) (by omega)
theorem inR_out {x l m : Int32} (h : x < l ∨ m < x) : inR x l m = false := by
  rcases h with h | h <;> simp [inR, h]
theorem X12_thrown : VM G mX12_thrown d 0 0 [.ref (b + 0)] (xE (some (.int (S 0 2))) (wH G b tbM S h0)) (wH G b tbM S h0) := by
  refine VM_start (ls := [some (.ref (b + 0))]) rfl ?_
  -- %m X12_thrown
  refine V_aload_n (pc := 0) (i := 0) dX12_thrown_0 rfl rfl ?_
  refine VW_getI (pc := 1) dX12_thrown_1 fX12_139 (by first | assumption | rfl) rfl ?_
  exact VE_iret (pc := 4) dX12_thrown_4 rfl rfl rfl
theorem X12_fail (k : Int32) (hb : gB G ≤ b) : VM G mX12_fail d 0 0 [.ref (b + 0), .int k] (xE (some (.int 0)) (wH G b tbM (up2 S 0 2 k) h0)) (wH G b tbM S h0) := by
  refine VM_start (ls := [some (.ref (b + 0)), some (.int k)]) rfl ?_
  -- %m X12_fail
  refine V_aload_n (pc := 0) (i := 0) dX12_fail_0 rfl rfl ?_
  refine V_iload_n (pc := 1) (i := 1) dX12_fail_1 rfl rfl ?_
  refine VW_putI (pc := 2) dX12_fail_2 fX12_139 ftX12 (fpI rfl rfl (tyX12_ok 2 (by decide))) (by first | assumption | rfl) rfl (by assumption) ?_
  refine V_iconst (pc := 5) (v := 0) dX12_fail_5 (by decide) ?_
  exact VE_iret (pc := 6) dX12_fail_6 rfl rfl rfl
theorem X12_failing (k : Int32) (hb : gB G ≤ b) : VM G mX12_failing d 0 0 [.ref (b + 0), .int k] (xE (some (.int 0)) (wH G b tbM (up2 S 0 2 k) h0)) (wH G b tbM S h0) := by
  refine VM_start (ls := [some (.ref (b + 0)), some (.int k)]) rfl ?_
  -- %m X12_failing
  refine V_aload_n (pc := 0) (i := 0) dX12_failing_0 rfl rfl ?_
  refine V_iload_n (pc := 1) (i := 1) dX12_failing_1 rfl rfl ?_
  refine VW_putI (pc := 2) dX12_failing_2 fX12_139 ftX12 (fpI rfl rfl (tyX12_ok 2 (by decide))) (by first | assumption | rfl) rfl (by assumption) ?_
  refine V_iconst (pc := 5) (v := 0) dX12_failing_5 (by decide) ?_
  exact VE_zret (pc := 6) dX12_failing_6 rfl (Or.inl rfl) rfl rfl
/-- bits are counted: m at most -/
def kbL : Nat → Int32 → Int32 → Option Int32
  | 0, v, x => if v = 0 then some x else none
  | m + 1, v, x => if v = 0 then some x else kbL m (v &&& (v - 1)) (x + 1)
theorem X12_bitsOf0 {v r : Int32} (m : Nat) (hr : kbL m v 0 = some r) : VM G mX12_bitsOf d 0 0 [.int v] (xE (some (.int r)) h) h := by
  refine VM_start (ls := [some (.int v), none, none]) rfl ?_
  -- %m X12_bitsOf
  refine V_iconst (pc := 0) (v := 0) dX12_bitsOf_0 (by decide) ?_
  refine V_istore_n (pc := 1) (i := 1) dX12_bitsOf_1 rfl (by decide) rfl ?_
  refine V_iload_n (pc := 2) (i := 0) dX12_bitsOf_2 rfl rfl ?_
  refine V_istore_n (pc := 3) (i := 2) dX12_bitsOf_3 rfl (by decide) rfl ?_
  have loop : ∀ (m : Nat) (w x : Int32), kbL m w x = some r → V G mX12_bitsOf d 0 0 (xE (some (.int r)) h) 4 [some (.int v), some (.int x), some (.int w)] [] h := by
    intro m
    induction m with
    | zero =>
      intro w x hk
      rw [kbL] at hk
      refine V_iload_n (pc := 4) (i := 2) dX12_bitsOf_4 rfl rfl ?_
      refine V_if_eq (pc := 5) 20 dX12_bitsOf_5 rfl (fun c5 => ?_) (fun c5 => ?_)
      · rw [if_pos c5] at hk
        refine V_iload_n (pc := 20) (i := 1) dX12_bitsOf_20 rfl rfl ?_
        exact VE_iret (pc := 21) dX12_bitsOf_21 rfl (by cases hk; rfl) rfl
      · rw [if_neg c5] at hk; cases hk
    | succ m ih =>
      intro w x hk
      rw [kbL] at hk
      refine V_iload_n (pc := 4) (i := 2) dX12_bitsOf_4 rfl rfl ?_
      refine V_if_eq (pc := 5) 20 dX12_bitsOf_5 rfl (fun c5 => ?_) (fun c5 => ?_)
      · rw [if_pos c5] at hk
        refine V_iload_n (pc := 20) (i := 1) dX12_bitsOf_20 rfl rfl ?_
        exact VE_iret (pc := 21) dX12_bitsOf_21 rfl (by cases hk; rfl) rfl
      · rw [if_neg c5] at hk
        refine V_iinc (pc := 8) dX12_bitsOf_8 (by decide) rfl rfl (v := x + 1) rfl ?_
        refine V_iload_n (pc := 11) (i := 2) dX12_bitsOf_11 rfl rfl ?_
        refine V_iload_n (pc := 12) (i := 2) dX12_bitsOf_12 rfl rfl ?_
        refine V_iconst (pc := 13) (v := 1) dX12_bitsOf_13 (by decide) ?_
        refine V_isub (pc := 14) dX12_bitsOf_14 ?_
        refine V_iand (pc := 15) dX12_bitsOf_15 ?_
        refine V_istore_n (pc := 16) (i := 2) dX12_bitsOf_16 rfl (by decide) rfl ?_
        refine V_goto (pc := 17) 4 dX12_bitsOf_17 rfl ?_
        exact ih _ _ hk
  exact loop m v 0 hr
theorem kb_ok1 : ∀ k, k < 256 → kbL 12 (nI k) 0 = some (bcI (nI k)) := by decide +kernel
end M1
