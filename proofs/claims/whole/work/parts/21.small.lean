/-! ===== the class's smaller parts: Seen, Rule, State, Acts; the JDK's bitCount and fill ===== -/
def SeenAt (tb : xTb) (k : Nat) : Prop := tb[k]? = some (.inr (5, [k + 1 + 2, k + 2 + 2, 0, 0])) ∧ tb[k + 1]? = some (.inl (0, 8)) ∧ tb[k + 2]? = some (.inl (0, 8))
def StateAt (tb : xTb) (k : Nat) : Prop := tb[k]? = some (.inr (8, [k + 1 + 2, k + 2 + 2, k + 3 + 2, k + 4 + 2, 0, 0, 0, 0])) ∧ tb[k + 1]? = some (.inl (0, 8)) ∧ tb[k + 2]? = some (.inl (0, 8)) ∧ tb[k + 3]? = some (.inl (0, 8)) ∧ tb[k + 4]? = some (.inl (0, 8))
def ActsAt (tb : xTb) (k : Nat) : Prop := tb[k]? = some (.inr (0, [k + 1 + 2, 0, 0])) ∧ tb[k + 1]? = some (.inl (0, 1440))
def RuleAt (tb : xTb) (k : Nat) : Prop := tb[k]? = some (.inr (4, [k + 1 + 2, k + 2 + 2, 0])) ∧ tb[k + 1]? = some (.inl (0, 700)) ∧ tb[k + 2]? = some (.inl (0, 64))
def ShoreAt (tb : xTb) (s : Nat) : Prop := tb[s]? = some (.inr (7, [s + 1 + 2, s + 2 + 2, s + 6 + 2, s + 9 + 2, s + 10 + 2, s + 11 + 2, s + 12 + 2, 0, 0, 0, 0])) ∧ tb[s + 1]? = some (.inl (0, 10)) ∧ IfsAt tb (s + 2) ∧ RuleAt tb (s + 6) ∧ tb[s + 9]? = some (.inl (0, 8)) ∧ tb[s + 10]? = some (.inl (0, 8)) ∧ tb[s + 11]? = some (.inl (0, 8)) ∧ tb[s + 12]? = some (.inl (0, 8))
section Small
variable {G : xG} {d bc bs : Nat} {b : Nat} {tb : xTb} {S : Nat → Nat → Int32} {h0 h : xH}
/-- x >>> k, as Java has it -/
def ushr (x k : Int32) : Int32 := (x.toUInt32 >>> (k.toUInt32 &&& Int32.toUInt32 31)).toInt32
/-- Integer.bitCount -/
def bcI (x : Int32) : Int32 :=
  let a := x - (ushr x 1 &&& 1431655765)
  let b := (a &&& 858993459) + (ushr a 2 &&& 858993459)
  let c := b + ushr b 4 &&& 252645135
  let e := c + ushr c 8
  let f := e + ushr e 16
  f &&& 63
theorem J6_bitCount (x : Int32) : VM G mJ6_bitCount_0f7a4 d 0 0 [.int x] (xE (some (.int (bcI x))) h) h := by
  refine VM_start (ls := [some (.int x)]) rfl ?_
  -- %m J6_bitCount_0f7a4
  refine V_iload_n (pc := 0) (i := 0) dJ6_bitCount_0f7a4_0 rfl rfl ?_
  refine V_iload_n (pc := 1) (i := 0) dJ6_bitCount_0f7a4_1 rfl rfl ?_
  refine V_iconst (pc := 2) (v := 1) dJ6_bitCount_0f7a4_2 (by decide) ?_
  refine V_iushr (pc := 3) dJ6_bitCount_0f7a4_3 rfl ?_
  refine V_ldcw (pc := 4) dJ6_bitCount_0f7a4_4 lJ6_265 ?_
  refine V_iand (pc := 7) dJ6_bitCount_0f7a4_7 ?_
  refine V_isub (pc := 8) dJ6_bitCount_0f7a4_8 ?_
  refine V_istore_n (pc := 9) (i := 0) dJ6_bitCount_0f7a4_9 rfl (by decide) rfl ?_
  refine V_iload_n (pc := 10) (i := 0) dJ6_bitCount_0f7a4_10 rfl rfl ?_
  refine V_ldcw (pc := 11) dJ6_bitCount_0f7a4_11 lJ6_266 ?_
  refine V_iand (pc := 14) dJ6_bitCount_0f7a4_14 ?_
  refine V_iload_n (pc := 15) (i := 0) dJ6_bitCount_0f7a4_15 rfl rfl ?_
  refine V_iconst (pc := 16) (v := 2) dJ6_bitCount_0f7a4_16 (by decide) ?_
  refine V_iushr (pc := 17) dJ6_bitCount_0f7a4_17 rfl ?_
  refine V_ldcw (pc := 18) dJ6_bitCount_0f7a4_18 lJ6_266 ?_
  refine V_iand (pc := 21) dJ6_bitCount_0f7a4_21 ?_
  refine V_iadd (pc := 22) dJ6_bitCount_0f7a4_22 ?_
  refine V_istore_n (pc := 23) (i := 0) dJ6_bitCount_0f7a4_23 rfl (by decide) rfl ?_
  refine V_iload_n (pc := 24) (i := 0) dJ6_bitCount_0f7a4_24 rfl rfl ?_
  refine V_iload_n (pc := 25) (i := 0) dJ6_bitCount_0f7a4_25 rfl rfl ?_
  refine V_iconst (pc := 26) (v := 4) dJ6_bitCount_0f7a4_26 (by decide) ?_
  refine V_iushr (pc := 27) dJ6_bitCount_0f7a4_27 rfl ?_
  refine V_iadd (pc := 28) dJ6_bitCount_0f7a4_28 ?_
  refine V_ldcw (pc := 29) dJ6_bitCount_0f7a4_29 lJ6_267 ?_
  refine V_iand (pc := 32) dJ6_bitCount_0f7a4_32 ?_
  refine V_istore_n (pc := 33) (i := 0) dJ6_bitCount_0f7a4_33 rfl (by decide) rfl ?_
  refine V_iload_n (pc := 34) (i := 0) dJ6_bitCount_0f7a4_34 rfl rfl ?_
  refine V_iload_n (pc := 35) (i := 0) dJ6_bitCount_0f7a4_35 rfl rfl ?_
  refine V_bipush (pc := 36) (v := 8) dJ6_bitCount_0f7a4_36 (by decide) ?_
  refine V_iushr (pc := 38) dJ6_bitCount_0f7a4_38 rfl ?_
  refine V_iadd (pc := 39) dJ6_bitCount_0f7a4_39 ?_
  refine V_istore_n (pc := 40) (i := 0) dJ6_bitCount_0f7a4_40 rfl (by decide) rfl ?_
  refine V_iload_n (pc := 41) (i := 0) dJ6_bitCount_0f7a4_41 rfl rfl ?_
  refine V_iload_n (pc := 42) (i := 0) dJ6_bitCount_0f7a4_42 rfl rfl ?_
  refine V_bipush (pc := 43) (v := 16) dJ6_bitCount_0f7a4_43 (by decide) ?_
  refine V_iushr (pc := 45) dJ6_bitCount_0f7a4_45 rfl ?_
  refine V_iadd (pc := 46) dJ6_bitCount_0f7a4_46 ?_
  refine V_istore_n (pc := 47) (i := 0) dJ6_bitCount_0f7a4_47 rfl (by decide) rfl ?_
  refine V_iload_n (pc := 48) (i := 0) dJ6_bitCount_0f7a4_48 rfl rfl ?_
  refine V_bipush (pc := 49) (v := 63) dJ6_bitCount_0f7a4_49 (by decide) ?_
  refine V_iand (pc := 51) dJ6_bitCount_0f7a4_51 ?_
  exact VE_iret (pc := 52) dJ6_bitCount_0f7a4_52 rfl rfl rfl
/-- Arrays.fill of ints -/
def fillR (f : Nat → Int32) (v : Int32) (i n : Nat) : Nat → Int32 := fun j => if i ≤ j ∧ j < n then v else f j
theorem J7_fill {k n : Nat} (hk : tb[k]? = some (.inl (0, n))) (hn : n ≤ 2 ^ 20) (hb : gB G ≤ b) (v : Int32) :
    VM G mJ7_fill_53178 d 0 0 [.ref (b + k), .int v] (xE none (wH G b tb (upR S k (fillR (S k) v 0 n)) h0)) (wH G b tb S h0) := by
  refine VM_start (ls := [some (.ref (b + k)), some (.int v), none, none]) rfl ?_
  -- %m J7_fill_53178
  refine V_iconst (pc := 0) (v := 0) dJ7_fill_53178_0 (by decide) ?_
  refine V_istore_n (pc := 1) (i := 2) dJ7_fill_53178_1 rfl (by decide) rfl ?_
  refine V_aload_n (pc := 2) (i := 0) dJ7_fill_53178_2 rfl rfl ?_
  refine VW_alen (pc := 3) dJ7_fill_53178_3 (by first | assumption | rfl) (by decide) rfl ?_
  refine V_istore_n (pc := 4) (i := 3) dJ7_fill_53178_4 rfl (by decide) rfl ?_
  have loop : ∀ (m i : Nat) (S : Nat → Nat → Int32), m + i = n → V G mJ7_fill_53178 d 0 0 (xE none (wH G b tb (upR S k (fillR (S k) v i n)) h0)) 5 [some (.ref (b + k)), some (.int v), some (.int (nI i)), some (.int (nI n))] [] (wH G b tb S h0) := by
    intro m
    induction m with
    | zero =>
      intro i S hm
      refine V_iload_n (pc := 5) (i := 2) dJ7_fill_53178_5 rfl rfl ?_
      refine V_iload_n (pc := 6) (i := 3) dJ7_fill_53178_6 rfl rfl ?_
      refine V_icmp_ge (pc := 7) 20 dJ7_fill_53178_7 rfl (fun c7 => ?_) (fun c7 => ?_)
      · exact VE_vret (pc := 20) dJ7_fill_53178_20 rfl (by
          have e : upR S k (fillR (S k) v i n) = S := by
            funext k' j
            by_cases hk' : k' = k
            · subst hk'
              simp only [upR_same, fillR]
              rw [if_neg (by omega)]
            · rw [upR_row hk']
          rw [e])
      · exact absurd (nI_le (by omega) (by omega)) c7
    | succ m ih =>
      intro i S hm
      refine V_iload_n (pc := 5) (i := 2) dJ7_fill_53178_5 rfl rfl ?_
      refine V_iload_n (pc := 6) (i := 3) dJ7_fill_53178_6 rfl rfl ?_
      refine V_icmp_ge (pc := 7) 20 dJ7_fill_53178_7 rfl (fun c7 => ?_) (fun c7 => ?_)
      · exact absurd c7 (nI_ge (by omega) (by omega))
      · refine V_aload_n (pc := 10) (i := 0) dJ7_fill_53178_10 rfl rfl ?_
        refine V_iload_n (pc := 11) (i := 2) dJ7_fill_53178_11 rfl rfl ?_
        refine V_iload_n (pc := 12) (i := 1) dJ7_fill_53178_12 rfl rfl ?_
        refine VW_iastN (pc := 13) dJ7_fill_53178_13 (by first | assumption | rfl) (by assumption) rfl (by omega) (by first | decide | omega) ?_
        have e : upR S k (fillR (S k) v i n) = upR (up2 S k i v) k (fillR (up2 S k i v k) v (i + 1) n) := by
          funext k' j
          by_cases hk' : k' = k
          · subst hk'
            simp only [upR_same, fillR]
            by_cases hj : j = i
            · subst hj
              rw [if_pos (by omega), if_neg (by omega), up2_same]
            · rw [up2_col hj]
              by_cases hz : i ≤ j ∧ j < n
              · rw [if_pos hz, if_pos (by omega)]
              · rw [if_neg hz, if_neg (by omega)]
          · rw [upR_row hk', upR_row hk', up2_row hk']
        rw [e]
        refine V_iinc (pc := 14) dJ7_fill_53178_14 (by decide) rfl rfl (iincN (n := 1) (by decide)) ?_
        refine V_goto (pc := 17) 5 dJ7_fill_53178_17 rfl ?_
        exact ih (i + 1) _ (by omega)
  exact loop n 0 S rfl
-- Seen
theorem X5_clear {k : Nat} (hs : SeenAt tb k) (hb : gB G ≤ b) : VM G mX5_clear d 0 0 [.ref (b + k)] (xE none (wH G b tb (up2 (up2 S k 3 0) k 2 0) h0)) (wH G b tb S h0) := by
  obtain ⟨k0, k1, k2⟩ := hs
  refine VM_start (ls := [some (.ref (b + k))]) rfl ?_
  -- %m X5_clear
  refine V_aload_n (pc := 0) (i := 0) dX5_clear_0 rfl rfl ?_
  refine V_iconst (pc := 1) (v := 0) dX5_clear_1 (by decide) ?_
  refine VW_putI (pc := 2) dX5_clear_2 fX5_22 ftX5 (fpI rfl rfl (tyX5_ok 3 (by decide))) (by first | assumption | rfl) rfl (by assumption) ?_
  refine V_aload_n (pc := 5) (i := 0) dX5_clear_5 rfl rfl ?_
  refine V_iconst (pc := 6) (v := 0) dX5_clear_6 (by decide) ?_
  refine VW_putI (pc := 7) dX5_clear_7 fX5_18 ftX5 (fpI rfl rfl (tyX5_ok 2 (by decide))) (by first | assumption | rfl) rfl (by assumption) ?_
  exact VE_vret (pc := 10) dX5_clear_10 rfl rfl
def seenPut (S : Nat → Nat → Int32) (k n : Nat) (p t v : Int32) : Nat → Nat → Int32 := up2 (up2 (up2 (up2 S (k + 1) n p) (k + 2) n t) k 2 (S k 2 ||| v)) k 3 (nI n + 1)
theorem X5_put_full {k : Nat} (hs : SeenAt tb k) (hn : S k 3 = 8) (p t v : Int32) : VM G mX5_put d 0 0 [.ref (b + k), .int p, .int t, .int v] (xE (some (.int 0)) (wH G b tb S h0)) (wH G b tb S h0) := by
  obtain ⟨k0, k1, k2⟩ := hs
  refine VM_start (ls := [some (.ref (b + k)), some (.int p), some (.int t), some (.int v)]) rfl ?_
  -- %m X5_put
  refine V_aload_n (pc := 0) (i := 0) dX5_put_0 rfl rfl ?_
  refine VW_getI (pc := 1) dX5_put_1 fX5_22 (by first | assumption | rfl) rfl ?_
  refine V_bipush (pc := 4) (v := 8) dX5_put_4 (by decide) ?_
  refine V_icmp_lt (pc := 6) 11 dX5_put_6 rfl (fun c6 => ?_) (fun c6 => ?_)
  · exact absurd c6 (by rw [hn]; decide)
  · refine V_iconst (pc := 9) (v := 0) dX5_put_9 (by decide) ?_
    exact VE_zret (pc := 10) dX5_put_10 rfl (Or.inl rfl) rfl rfl
theorem X5_put {k n : Nat} (hs : SeenAt tb k) (hb : gB G ≤ b) (hn : S k 3 = nI n) (h8 : n < 8) (p t v : Int32) (hv : v = 0 ∨ v = 1) : VM G mX5_put d 0 0 [.ref (b + k), .int p, .int t, .int v] (xE (some (.int 1)) (wH G b tb (seenPut S k n p t (if v = 0 then 0 else 1 <<< (nI n &&& 31))) h0)) (wH G b tb S h0) := by
  obtain ⟨k0, k1, k2⟩ := hs
  refine VM_start (ls := [some (.ref (b + k)), some (.int p), some (.int t), some (.int v)]) rfl ?_
  -- %m X5_put
  refine V_aload_n (pc := 0) (i := 0) dX5_put_0 rfl rfl ?_
  refine VW_getI (pc := 1) dX5_put_1 fX5_22 (by first | assumption | rfl) rfl ?_
  refine V_bipush (pc := 4) (v := 8) dX5_put_4 (by decide) ?_
  refine V_icmp_lt (pc := 6) 11 dX5_put_6 rfl (fun c6 => ?_) (fun c6 => ?_)
  · refine V_aload_n (pc := 11) (i := 0) dX5_put_11 rfl rfl ?_
    refine VW_getR (pc := 12) dX5_put_12 fX5_9 (by first | assumption | rfl) rfl ?_
    refine V_aload_n (pc := 15) (i := 0) dX5_put_15 rfl rfl ?_
    refine VW_getI (pc := 16) dX5_put_16 fX5_22 (by first | assumption | rfl) rfl ?_
    rw [hn]
    refine V_iload_n (pc := 19) (i := 1) dX5_put_19 rfl rfl ?_
    refine VW_iastN (pc := 20) dX5_put_20 (by first | assumption | rfl) (by assumption) rfl (by omega) (by first | decide | omega) ?_
    refine V_aload_n (pc := 21) (i := 0) dX5_put_21 rfl rfl ?_
    refine VW_getR (pc := 22) dX5_put_22 fX5_15 (by first | assumption | rfl) rfl ?_
    refine V_aload_n (pc := 25) (i := 0) dX5_put_25 rfl rfl ?_
    refine VW_getI (pc := 26) dX5_put_26 fX5_22 (by first | assumption | rfl) rfl ?_
    simp (disch := omega) only [up2_row, up2_col, hn]
    refine V_iload_n (pc := 29) (i := 2) dX5_put_29 rfl rfl ?_
    refine VW_iastN (pc := 30) dX5_put_30 (by first | assumption | rfl) (by assumption) rfl (by omega) (by first | decide | omega) ?_
    refine V_aload_n (pc := 31) (i := 0) dX5_put_31 rfl rfl ?_
    refine V_dup (pc := 32) dX5_put_32 rfl ?_
    refine VW_getI (pc := 33) dX5_put_33 fX5_18 (by first | assumption | rfl) rfl ?_
    simp (disch := omega) only [up2_row, up2_col]
    refine V_iload_n (pc := 36) (i := 3) dX5_put_36 rfl rfl ?_
    refine V_if_eq (pc := 37) 49 dX5_put_37 rfl (fun c37 => ?_) (fun c37 => ?_)
    · rw [if_pos c37]
      refine V_iconst (pc := 49) (v := 0) dX5_put_49 (by decide) ?_
      refine V_ior (pc := 50) dX5_put_50 ?_
      refine VW_putI (pc := 51) dX5_put_51 fX5_18 ftX5 (fpI rfl rfl (tyX5_ok 2 (by decide))) (by first | assumption | rfl) rfl (by assumption) ?_
      refine V_aload_n (pc := 54) (i := 0) dX5_put_54 rfl rfl ?_
      refine V_dup (pc := 55) dX5_put_55 rfl ?_
      refine VW_getI (pc := 56) dX5_put_56 fX5_22 (by first | assumption | rfl) rfl ?_
      simp (disch := omega) only [up2_row, up2_col, hn]
      refine V_iconst (pc := 59) (v := 1) dX5_put_59 (by decide) ?_
      refine V_iadd (pc := 60) dX5_put_60 ?_
      refine VW_putI (pc := 61) dX5_put_61 fX5_22 ftX5 (fpI rfl rfl (tyX5_ok 3 (by decide))) (by first | assumption | rfl) rfl (by assumption) ?_
      refine V_iconst (pc := 64) (v := 1) dX5_put_64 (by decide) ?_
      exact VE_zret (pc := 65) dX5_put_65 rfl (Or.inr rfl) rfl rfl
    · rw [if_neg c37]
      refine V_iconst (pc := 40) (v := 1) dX5_put_40 (by decide) ?_
      refine V_aload_n (pc := 41) (i := 0) dX5_put_41 rfl rfl ?_
      refine VW_getI (pc := 42) dX5_put_42 fX5_22 (by first | assumption | rfl) rfl ?_
      simp (disch := omega) only [up2_row, up2_col, hn]
      refine V_ishl (pc := 45) dX5_put_45 ?_
      refine V_goto (pc := 46) 50 dX5_put_46 rfl ?_
      refine V_ior (pc := 50) dX5_put_50 ?_
      refine VW_putI (pc := 51) dX5_put_51 fX5_18 ftX5 (fpI rfl rfl (tyX5_ok 2 (by decide))) (by first | assumption | rfl) rfl (by assumption) ?_
      refine V_aload_n (pc := 54) (i := 0) dX5_put_54 rfl rfl ?_
      refine V_dup (pc := 55) dX5_put_55 rfl ?_
      refine VW_getI (pc := 56) dX5_put_56 fX5_22 (by first | assumption | rfl) rfl ?_
      simp (disch := omega) only [up2_row, up2_col, hn]
      refine V_iconst (pc := 59) (v := 1) dX5_put_59 (by decide) ?_
      refine V_iadd (pc := 60) dX5_put_60 ?_
      refine VW_putI (pc := 61) dX5_put_61 fX5_22 ftX5 (fpI rfl rfl (tyX5_ok 3 (by decide))) (by first | assumption | rfl) rfl (by assumption) ?_
      refine V_iconst (pc := 64) (v := 1) dX5_put_64 (by decide) ?_
      exact VE_zret (pc := 65) dX5_put_65 rfl (Or.inr rfl) rfl rfl
  · exact absurd (by rw [hn]; exact nI_lt (b := 8) h8 (by decide)) c6
def seenCp (S : Nat → Nat → Int32) (k o : Nat) : Nat → Nat → Int32 := up2 (up2 (upR (upR S (k + 1) (va_cpy (S (o + 1)) (S (k + 1)) 0 0 8)) (k + 2) (va_cpy (S (o + 2)) (S (k + 2)) 0 0 8)) k 2 (S o 2)) k 3 (S o 3)
theorem X5_copyFrom {k o : Nat} (hs : SeenAt tb k) (ho : SeenAt tb o) (hko : k + 3 ≤ o ∨ o + 3 ≤ k) (hb : gB G ≤ b) (hd : 1 ≤ d) : VM G mX5_copyFrom d 0 0 [.ref (b + k), .ref (b + o)] (xE none (wH G b tb (seenCp S k o) h0)) (wH G b tb S h0) := by
  obtain ⟨k0, k1, k2⟩ := hs
  obtain ⟨o0, o1, o2⟩ := ho
  refine VM_start (ls := [some (.ref (b + k)), some (.ref (b + o))]) rfl ?_
  -- %m X5_copyFrom
  refine V_aload_n (pc := 0) (i := 1) dX5_copyFrom_0 rfl rfl ?_
  refine VW_getR (pc := 1) dX5_copyFrom_1 fX5_9 (by first | assumption | rfl) rfl ?_
  refine V_iconst (pc := 4) (v := 0) dX5_copyFrom_4 (by decide) ?_
  refine V_aload_n (pc := 5) (i := 0) dX5_copyFrom_5 rfl rfl ?_
  refine VW_getR (pc := 6) dX5_copyFrom_6 fX5_9 (by first | assumption | rfl) rfl ?_
  refine V_iconst (pc := 9) (v := 0) dX5_copyFrom_9 (by decide) ?_
  refine V_bipush (pc := 10) (v := 8) dX5_copyFrom_10 (by decide) ?_
  refine VW_copyN (pc := 12) (s' := 0) (d9 := 0) (n' := 8) dX5_copyFrom_12 cX5_29 (by first | assumption | rfl) (by first | assumption | rfl) (by assumption) rfl rfl rfl (by decide) (by decide) (by decide) (by decide) (by omega) (Nat.le_of_ble_eq_true rfl) ?_
  refine V_aload_n (pc := 15) (i := 1) dX5_copyFrom_15 rfl rfl ?_
  refine VW_getR (pc := 16) dX5_copyFrom_16 fX5_15 (by first | assumption | rfl) rfl ?_
  refine V_iconst (pc := 19) (v := 0) dX5_copyFrom_19 (by decide) ?_
  refine V_aload_n (pc := 20) (i := 0) dX5_copyFrom_20 rfl rfl ?_
  refine VW_getR (pc := 21) dX5_copyFrom_21 fX5_15 (by first | assumption | rfl) rfl ?_
  refine V_iconst (pc := 24) (v := 0) dX5_copyFrom_24 (by decide) ?_
  refine V_bipush (pc := 25) (v := 8) dX5_copyFrom_25 (by decide) ?_
  refine VW_copyN (pc := 27) (s' := 0) (d9 := 0) (n' := 8) dX5_copyFrom_27 cX5_29 (by first | assumption | rfl) (by first | assumption | rfl) (by assumption) rfl rfl rfl (by decide) (by decide) (by decide) (by decide) (by omega) (Nat.le_of_ble_eq_true rfl) ?_
  simp (disch := omega) only [upR_row]
  refine V_aload_n (pc := 30) (i := 0) dX5_copyFrom_30 rfl rfl ?_
  refine V_aload_n (pc := 31) (i := 1) dX5_copyFrom_31 rfl rfl ?_
  refine VW_getI (pc := 32) dX5_copyFrom_32 fX5_18 (by first | assumption | rfl) rfl ?_
  simp (disch := omega) only [upR_row]
  refine VW_putI (pc := 35) dX5_copyFrom_35 fX5_18 ftX5 (fpI rfl rfl (tyX5_ok 2 (by decide))) (by first | assumption | rfl) rfl (by assumption) ?_
  refine V_aload_n (pc := 38) (i := 0) dX5_copyFrom_38 rfl rfl ?_
  refine V_aload_n (pc := 39) (i := 1) dX5_copyFrom_39 rfl rfl ?_
  refine VW_getI (pc := 40) dX5_copyFrom_40 fX5_22 (by first | assumption | rfl) rfl ?_
  simp (disch := omega) only [upR_row, up2_row]
  refine VW_putI (pc := 43) dX5_copyFrom_43 fX5_22 ftX5 (fpI rfl rfl (tyX5_ok 3 (by decide))) (by first | assumption | rfl) rfl (by assumption) ?_
  exact VE_vret (pc := 46) dX5_copyFrom_46 rfl rfl
/-- what of person's is SEEN is so there: m from i on -/
def agr (pe th : Nat → Int32) (had p x : Int32) : Nat → Nat → Bool
  | 0, _ => true
  | m + 1, i => if pe i = p ∧ ¬ hasB x (th i) = hasB had (nI i) then false else agr pe th had p x m (i + 1)
theorem X5_agrees {k n : Nat} (hs : SeenAt tb k) (hn : S k 3 = nI n) (h8 : n ≤ 8) (hd : 1 ≤ d) (p x : Int32) : VM G mX5_agrees d 0 0 [.ref (b + k), .int p, .int x] (xE (some (.int (b2i (agr (S (k + 1)) (S (k + 2)) (S k 2) p x n 0)))) (wH G b tb S h0)) (wH G b tb S h0) := by
  obtain ⟨k0, k1, k2⟩ := hs
  refine VM_start (ls := [some (.ref (b + k)), some (.int p), some (.int x), none]) rfl ?_
  -- %m X5_agrees
  refine V_iconst (pc := 0) (v := 0) dX5_agrees_0 (by decide) ?_
  refine V_istore_n (pc := 1) (i := 3) dX5_agrees_1 rfl (by decide) rfl ?_
  have loop : ∀ (m i : Nat), m + i = n → V G mX5_agrees d 0 0 (xE (some (.int (b2i (agr (S (k + 1)) (S (k + 2)) (S k 2) p x m i)))) (wH G b tb S h0)) 2 [some (.ref (b + k)), some (.int p), some (.int x), some (.int (nI i))] [] (wH G b tb S h0) := by
    intro m
    induction m with
    | zero =>
      intro i hm
      refine V_iload_n (pc := 2) (i := 3) dX5_agrees_2 rfl rfl ?_
      refine V_aload_n (pc := 3) (i := 0) dX5_agrees_3 rfl rfl ?_
      refine VW_getI (pc := 4) dX5_agrees_4 fX5_22 (by first | assumption | rfl) rfl ?_
      refine V_icmp_ge (pc := 7) 49 dX5_agrees_7 rfl (fun c7 => ?_) (fun c7 => ?_)
      · refine V_iconst (pc := 49) (v := 1) dX5_agrees_49 (by decide) ?_
        exact VE_zret (pc := 50) dX5_agrees_50 rfl (Or.inr rfl) rfl rfl
      · exact absurd (by rw [hn, show i = n by omega]; exact nI_le (by omega) (by omega)) c7
    | succ m ih =>
      intro i hm
      rw [agr]
      refine V_iload_n (pc := 2) (i := 3) dX5_agrees_2 rfl rfl ?_
      refine V_aload_n (pc := 3) (i := 0) dX5_agrees_3 rfl rfl ?_
      refine VW_getI (pc := 4) dX5_agrees_4 fX5_22 (by first | assumption | rfl) rfl ?_
      refine V_icmp_ge (pc := 7) 49 dX5_agrees_7 rfl (fun c7 => ?_) (fun c7 => ?_)
      · exact absurd c7 (by rw [hn]; exact nI_ge (by omega) (by omega))
      · refine V_aload_n (pc := 10) (i := 0) dX5_agrees_10 rfl rfl ?_
        refine VW_getR (pc := 11) dX5_agrees_11 fX5_9 (by first | assumption | rfl) rfl ?_
        refine V_iload_n (pc := 14) (i := 3) dX5_agrees_14 rfl rfl ?_
        refine VW_ialdN (pc := 15) dX5_agrees_15 (by first | assumption | rfl) rfl (by omega) (by first | decide | omega) ?_
        refine V_iload_n (pc := 16) (i := 1) dX5_agrees_16 rfl rfl ?_
        refine V_icmp_ne (pc := 17) 43 dX5_agrees_17 rfl (fun c17 => ?_) (fun c17 => ?_)
        · rw [if_neg (fun q => c17 q.1)]
          refine V_iinc (pc := 43) dX5_agrees_43 (by decide) rfl rfl (iincN (n := 1) (by decide)) ?_
          refine V_goto (pc := 46) 2 dX5_agrees_46 rfl ?_
          exact ih (i + 1) (by omega)
        · refine V_aload_n (pc := 20) (i := 0) dX5_agrees_20 rfl rfl ?_
          refine VW_getR (pc := 21) dX5_agrees_21 fX5_15 (by first | assumption | rfl) rfl ?_
          refine V_iload_n (pc := 24) (i := 3) dX5_agrees_24 rfl rfl ?_
          refine VW_ialdN (pc := 25) dX5_agrees_25 (by first | assumption | rfl) rfl (by omega) (by first | decide | omega) ?_
          refine V_iload_n (pc := 26) (i := 2) dX5_agrees_26 rfl rfl ?_
          refine V_SN2i (pc := 27) dX5_agrees_27 cX5_25 (X11_isIn (d := 0) _ _) (Nat.le_of_ble_eq_true rfl) (by omega) (Nat.le_of_ble_eq_true rfl) ?_
          refine V_iload_n (pc := 30) (i := 3) dX5_agrees_30 rfl rfl ?_
          refine V_aload_n (pc := 31) (i := 0) dX5_agrees_31 rfl rfl ?_
          refine VW_getI (pc := 32) dX5_agrees_32 fX5_18 (by first | assumption | rfl) rfl ?_
          refine V_SN2i (pc := 35) dX5_agrees_35 cX5_25 (X11_isIn (d := 0) _ _) (Nat.le_of_ble_eq_true rfl) (by omega) (Nat.le_of_ble_eq_true rfl) ?_
          refine V_icmp_eq (pc := 38) 43 dX5_agrees_38 rfl (fun c38 => ?_) (fun c38 => ?_)
          · rw [if_neg (fun q => q.2 (by cases hz : hasB x (S (k + 2) i) <;> cases hy : hasB (S k 2) (nI i) <;> simp_all [b2i]))]
            refine V_iinc (pc := 43) dX5_agrees_43 (by decide) rfl rfl (iincN (n := 1) (by decide)) ?_
            refine V_goto (pc := 46) 2 dX5_agrees_46 rfl ?_
            exact ih (i + 1) (by omega)
          · refine V_iconst (pc := 41) (v := 0) dX5_agrees_41 (by decide) ?_
            exact VE_zret (pc := 42) dX5_agrees_42 rfl (Or.inl rfl) (by rw [if_pos ⟨c17, fun q => c38 (by rw [q])⟩]; rfl) rfl
  exact loop n 0 rfl
-- Rule
theorem X4_clear {k : Nat} (hs : RuleAt tb k) (hb : gB G ≤ b) : VM G mX4_clear d 0 0 [.ref (b + k)] (xE none (wH G b tb (up2 S k 2 0) h0)) (wH G b tb S h0) := by
  obtain ⟨k0, k1, k2⟩ := hs
  refine VM_start (ls := [some (.ref (b + k))]) rfl ?_
  -- %m X4_clear
  refine V_aload_n (pc := 0) (i := 0) dX4_clear_0 rfl rfl ?_
  refine V_iconst (pc := 1) (v := 0) dX4_clear_1 (by decide) ?_
  refine VW_putI (pc := 2) dX4_clear_2 fX4_18 ftX4 (fpI rfl rfl (tyX4_ok 2 (by decide))) (by first | assumption | rfl) rfl (by assumption) ?_
  exact VE_vret (pc := 5) dX4_clear_5 rfl rfl
theorem X4_isTold {k : Nat} (hs : RuleAt tb k) : VM G mX4_isTold d 0 0 [.ref (b + k)] (xE (some (.int (b2i (decide (0 < S k 2))))) (wH G b tb S h0)) (wH G b tb S h0) := by
  obtain ⟨k0, k1, k2⟩ := hs
  refine VM_start (ls := [some (.ref (b + k))]) rfl ?_
  -- %m X4_isTold
  refine V_aload_n (pc := 0) (i := 0) dX4_isTold_0 rfl rfl ?_
  refine VW_getI (pc := 1) dX4_isTold_1 fX4_18 (by first | assumption | rfl) rfl ?_
  refine V_if_le (pc := 4) 11 dX4_isTold_4 rfl (fun c4 => ?_) (fun c4 => ?_)
  · have c5 : ¬ 0 < S k 2 := Int32.not_lt.mpr c4
    refine V_iconst (pc := 11) (v := 0) dX4_isTold_11 (by decide) ?_
    exact VE_zret (pc := 12) dX4_isTold_12 rfl (by first | exact Or.inl rfl | exact Or.inr rfl) (by simp [b2i, c5]) rfl
  · have c5 : 0 < S k 2 := Int32.not_le.mp c4
    refine V_iconst (pc := 7) (v := 1) dX4_isTold_7 (by decide) ?_
    refine V_goto (pc := 8) 12 dX4_isTold_8 rfl ?_
    exact VE_zret (pc := 12) dX4_isTold_12 rfl (by first | exact Or.inl rfl | exact Or.inr rfl) (by simp [b2i, c5]) rfl
theorem X4_add {k n : Nat} (hs : RuleAt tb k) (hn : S k 2 = nI n) (h7 : n < 700) (hb : gB G ≤ b) (x : Int32) : VM G mX4_add d 0 0 [.ref (b + k), .int x] (xE none (wH G b tb (up2 (up2 S (k + 1) n x) k 2 (nI n + 1)) h0)) (wH G b tb S h0) := by
  obtain ⟨k0, k1, k2⟩ := hs
  refine VM_start (ls := [some (.ref (b + k)), some (.int x)]) rfl ?_
  -- %m X4_add
  refine V_aload_n (pc := 0) (i := 0) dX4_add_0 rfl rfl ?_
  refine VW_getI (pc := 1) dX4_add_1 fX4_18 (by first | assumption | rfl) rfl ?_
  refine V_aload_n (pc := 4) (i := 0) dX4_add_4 rfl rfl ?_
  refine VW_getR (pc := 5) dX4_add_5 fX4_9 (by first | assumption | rfl) rfl ?_
  refine VW_alen (pc := 8) dX4_add_8 (by first | assumption | rfl) (by decide) rfl ?_
  rw [hn]
  refine V_icmp_ge (pc := 9) 32 dX4_add_9 rfl (fun c9 => ?_) (fun c9 => ?_)
  · exact absurd c9 (nI_ge (b := 700) h7 (by decide))
  · refine V_aload_n (pc := 12) (i := 0) dX4_add_12 rfl rfl ?_
    refine VW_getR (pc := 13) dX4_add_13 fX4_9 (by first | assumption | rfl) rfl ?_
    refine V_aload_n (pc := 16) (i := 0) dX4_add_16 rfl rfl ?_
    refine VW_getI (pc := 17) dX4_add_17 fX4_18 (by first | assumption | rfl) rfl ?_
    rw [hn]
    refine V_iload_n (pc := 20) (i := 1) dX4_add_20 rfl rfl ?_
    refine VW_iastN (pc := 21) dX4_add_21 (by first | assumption | rfl) (by assumption) rfl (by omega) (by first | decide | omega) ?_
    refine V_aload_n (pc := 22) (i := 0) dX4_add_22 rfl rfl ?_
    refine V_dup (pc := 23) dX4_add_23 rfl ?_
    refine VW_getI (pc := 24) dX4_add_24 fX4_18 (by first | assumption | rfl) rfl ?_
    simp (disch := omega) only [up2_row, up2_col, hn]
    refine V_iconst (pc := 27) (v := 1) dX4_add_27 (by decide) ?_
    refine V_iadd (pc := 28) dX4_add_28 ?_
    refine VW_putI (pc := 29) dX4_add_29 fX4_18 ftX4 (fpI rfl rfl (tyX4_ok 2 (by decide))) (by first | assumption | rfl) rfl (by assumption) ?_
    exact VE_vret (pc := 32) dX4_add_32 rfl rfl
end Small
