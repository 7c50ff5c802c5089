/-! ===== Tape: bytes, TOKENS ===== -/
section Tp
variable {G : xG} {d : Nat} {b : Nat} {S : Nat → Nat → Int32} {h0 h : xH}
/-- a byte of a number that is fed -/
def putB (x sh : Int32) : Int32 := vp_nar .byte (((x.toUInt32 >>> (sh.toUInt32 &&& Int32.toUInt32 31)).toInt32).toInt8.toInt32)
def put1 (S : Nat → Nat → Int32) (z : Nat) (x : Int32) : Nat → Nat → Int32 := up2 (up2 S 3 z x) 2 4 (nI (z + 1))
def put4 (S : Nat → Nat → Int32) (z : Nat) (x : Int32) : Nat → Nat → Int32 := put1 (put1 (put1 (put1 S z (putB x 24)) (z + 1) (putB x 16)) (z + 2) (putB x 8)) (z + 3) (putB x 0)
theorem put1_4 {z : Nat} {x : Int32} : put1 S z x 2 4 = nI (z + 1) := up2_same
theorem put4_4 {z : Nat} {x : Int32} : put4 S z x 2 4 = nI (z + 4) := by rw [put4, put1_4]
theorem X9_put {z : Nat} (hz : S 2 4 = nI z) (h7 : z + 4 ≤ 700) (hb : gB G ≤ b) (x : Int32) : VM G mX9_put d 0 0 [.ref (b + 2), .int x] (xE none (wH G b tbC (put4 S z x) h0)) (wH G b tbC S h0) := by
  refine VM_start (ls := [some (.ref (b + 2)), some (.int x), none]) rfl ?_
  unfold put4
  -- %m X9_put
  refine V_bipush (pc := 0) (v := 24) dX9_put_0 (by decide) ?_
  refine V_istore_n (pc := 2) (i := 2) dX9_put_2 rfl (by decide) rfl ?_
  have one : ∀ (z : Nat) (sh sh2 : Int32) (S : Nat → Nat → Int32) (Q : xR → xH → Prop), z < 700 → S 2 4 = nI z → ¬ sh < 0 → sh + Int32.ofInt (-8) = sh2 → V G mX9_put d 0 0 Q 3 [some (.ref (b + 2)), some (.int x), some (.int sh2)] [] (wH G b tbC (put1 S z (putB x sh)) h0) → V G mX9_put d 0 0 Q 3 [some (.ref (b + 2)), some (.int x), some (.int sh)] [] (wH G b tbC S h0) := by
    intro z sh sh2 S Q hlt hz h1 h2 k
    refine V_iload_n (pc := 3) (i := 2) dX9_put_3 rfl rfl ?_
    refine V_if_lt (pc := 4) 48 dX9_put_4 rfl (fun c => absurd c h1) (fun _ => ?_)
    refine V_aload_n (pc := 7) (i := 0) dX9_put_7 rfl rfl ?_
    refine VW_getI (pc := 8) dX9_put_8 fX9_25 (by first | assumption | rfl) rfl ?_
    refine V_aload_n (pc := 11) (i := 0) dX9_put_11 rfl rfl ?_
    refine VW_getR (pc := 12) dX9_put_12 fX9_9 (by first | assumption | rfl) rfl ?_
    refine VW_alen (pc := 15) dX9_put_15 (by first | assumption | rfl) (by decide) rfl ?_
    rw [hz]
    refine V_icmp_ge (pc := 16) 48 dX9_put_16 rfl (fun c => absurd c (nI_ge hlt (by decide))) (fun _ => ?_)
    refine V_aload_n (pc := 19) (i := 0) dX9_put_19 rfl rfl ?_
    refine VW_getR (pc := 20) dX9_put_20 fX9_9 (by first | assumption | rfl) rfl ?_
    refine V_aload_n (pc := 23) (i := 0) dX9_put_23 rfl rfl ?_
    refine VW_getI (pc := 24) dX9_put_24 fX9_25 (by first | assumption | rfl) rfl ?_
    rw [hz]
    refine V_iload_n (pc := 27) (i := 1) dX9_put_27 rfl rfl ?_
    refine V_iload_n (pc := 28) (i := 2) dX9_put_28 rfl rfl ?_
    refine V_iushr (pc := 29) dX9_put_29 rfl ?_
    refine V_i2b (pc := 30) dX9_put_30 rfl ?_
    refine VW_bast (pc := 31) dX9_put_31 rfl (by assumption) (vp_in_nI hlt (by decide)) ?_
    rw [nI_clamp (by omega)]
    refine V_aload_n (pc := 32) (i := 0) dX9_put_32 rfl rfl ?_
    refine V_dup (pc := 33) dX9_put_33 rfl ?_
    refine VW_getI (pc := 34) dX9_put_34 fX9_25 (by first | assumption | rfl) rfl ?_
    rw [up2_row (by decide), hz]
    refine V_iconst (pc := 37) (v := 1) dX9_put_37 (by decide) ?_
    refine V_iadd (pc := 38) dX9_put_38 ?_
    rw [nI_1]
    refine VW_putI (pc := 39) dX9_put_39 fX9_25 ftX9 (fpI rfl rfl (tyX9_ok 4 (by decide))) (by first | assumption | rfl) rfl (by assumption) ?_
    refine V_iinc (pc := 42) dX9_put_42 (by decide) rfl rfl h2 ?_
    refine V_goto (pc := 45) 3 dX9_put_45 rfl ?_
    exact k
  refine one z 24 16 S _ (by omega) hz (by decide) (by decide) ?_
  refine one (z + 1) 16 8 _ _ (by omega) put1_4 (by decide) (by decide) ?_
  refine one (z + 2) 8 0 _ _ (by omega) put1_4 (by decide) (by decide) ?_
  refine one (z + 3) 0 (-8) _ _ (by omega) put1_4 (by decide) (by decide) ?_
  refine V_iload_n (pc := 3) (i := 2) dX9_put_3 rfl rfl ?_
  refine V_if_lt (pc := 4) 48 dX9_put_4 rfl (fun c4 => ?_) (fun c4 => ?_)
  · exact VE_vret (pc := 48) dX9_put_48 rfl rfl
  · exact absurd (by decide) c4
/-- what the text has at k -/
def bya (B : Nat → Int32) (L k : Nat) : Int32 := if k < L then B k &&& 255 else -1
theorem bya_or (B : Nat → Int32) (L k : Nat) : bya B L k = -1 ∨ ∃ c : Nat, c < 256 ∧ bya B L k = nI c := by
  unfold bya
  split
  · obtain ⟨c, hc, e⟩ := pk_andE (B k) (m := 255) 8 (by decide)
    exact Or.inr ⟨c, hc, e⟩
  · exact Or.inl rfl
theorem X9_byteAt {L k : Nat} (hL : S 2 1 = nI L) (h7 : L ≤ 700) (hk : k < 2 ^ 31) : VM G mX9_byteAt d 0 0 [.ref (b + 2), .int (nI k)] (xE (some (.int (bya (S 3) L k))) (wH G b tbC S h0)) (wH G b tbC S h0) := by
  refine VM_start (ls := [some (.ref (b + 2)), some (.int (nI k))]) rfl ?_
  unfold bya
  -- %m X9_byteAt
  refine V_iload_n (pc := 0) (i := 1) dX9_byteAt_0 rfl rfl ?_
  refine V_if_lt (pc := 1) 25 dX9_byteAt_1 rfl (fun c1 => ?_) (fun c1 => ?_)
  · exact absurd c1 (nI_pos hk)
  · refine V_iload_n (pc := 4) (i := 1) dX9_byteAt_4 rfl rfl ?_
    refine V_aload_n (pc := 5) (i := 0) dX9_byteAt_5 rfl rfl ?_
    refine VW_getI (pc := 6) dX9_byteAt_6 fX9_15 (by first | assumption | rfl) rfl ?_
    refine V_icmp_ge (pc := 9) 25 dX9_byteAt_9 rfl (fun c9 => ?_) (fun c9 => ?_)
    · rw [if_neg (fun q => nI_ge q (by omega) (by rw [hL] at c9; exact c9))]
      refine V_iconst (pc := 25) (v := -1) dX9_byteAt_25 (by decide) ?_
      exact VE_iret (pc := 26) dX9_byteAt_26 rfl rfl rfl
    · have hlt : k < L := Nat.not_le.mp (fun q => c9 (by rw [hL]; exact nI_le q hk))
      rw [if_pos hlt]
      refine V_aload_n (pc := 12) (i := 0) dX9_byteAt_12 rfl rfl ?_
      refine VW_getR (pc := 13) dX9_byteAt_13 fX9_9 (by first | assumption | rfl) rfl ?_
      refine V_iload_n (pc := 16) (i := 1) dX9_byteAt_16 rfl rfl ?_
      refine VW_bald (pc := 17) dX9_byteAt_17 (by first | assumption | rfl) (vp_in_nI (by omega) (by decide)) ?_
      rw [nI_clamp hk]
      refine V_sipush (pc := 18) (v := 255) dX9_byteAt_18 (by decide) ?_
      refine V_iand (pc := 21) dX9_byteAt_21 ?_
      refine V_goto (pc := 22) 26 dX9_byteAt_22 rfl ?_
      exact VE_iret (pc := 26) dX9_byteAt_26 rfl rfl rfl
def blk (x : Int32) : Bool := decide (x = 32) || decide (x = 10)
theorem X9_isBlank (x : Int32) : VM G mX9_isBlank d 0 0 [.int x] (xE (some (.int (b2i (blk x)))) h) h := by
  refine VM_start (ls := [some (.int x)]) rfl ?_
  -- %m X9_isBlank
  refine V_iload_n (pc := 0) (i := 0) dX9_isBlank_0 rfl rfl ?_
  refine V_bipush (pc := 1) (v := 32) dX9_isBlank_1 (by decide) ?_
  refine V_icmp_eq (pc := 3) 12 dX9_isBlank_3 rfl (fun c3 => ?_) (fun c3 => ?_)
  · refine V_iconst (pc := 12) (v := 1) dX9_isBlank_12 (by decide) ?_
    refine V_goto (pc := 13) 17 dX9_isBlank_13 rfl ?_
    exact VE_zret (pc := 17) dX9_isBlank_17 rfl (by first | exact Or.inl rfl | exact Or.inr rfl) (by simp [b2i, blk, *]) rfl
  · refine V_iload_n (pc := 6) (i := 0) dX9_isBlank_6 rfl rfl ?_
    refine V_bipush (pc := 7) (v := 10) dX9_isBlank_7 (by decide) ?_
    refine V_icmp_ne (pc := 9) 16 dX9_isBlank_9 rfl (fun c9 => ?_) (fun c9 => ?_)
    · refine V_iconst (pc := 16) (v := 0) dX9_isBlank_16 (by decide) ?_
      exact VE_zret (pc := 17) dX9_isBlank_17 rfl (by first | exact Or.inl rfl | exact Or.inr rfl) (by simp [b2i, blk, *]) rfl
    · refine V_iconst (pc := 12) (v := 1) dX9_isBlank_12 (by decide) ?_
      refine V_goto (pc := 13) 17 dX9_isBlank_13 rfl ?_
      exact VE_zret (pc := 17) dX9_isBlank_17 rfl (by first | exact Or.inl rfl | exact Or.inr rfl) (by simp [b2i, blk, *]) rfl
def mrk (x : Int32) : Bool := decide (x = 59) || decide (x = 40) || decide (x = 41) || decide (x = 43) || decide (x = 45) || decide (x = 42) || decide (x = 47) || decide (x = 60) || decide (x = 61)
/-- the kind of a TOKEN that begins with x -/
def knd (x : Int32) : Int32 := if x = -1 then 0 else if 97 ≤ x ∧ x ≤ 122 then 1 else if 48 ≤ x ∧ x ≤ 57 then 2 else if mrk x then 3 else 4
theorem i2cN : ∀ c : Nat, c < 256 → ((nI c).toUInt32 % 65536).toInt32 = nI c := by decide +kernel
theorem mrk_ix : ∀ c : Nat, c < 256 → (ixG (fun j => ([59, 40, 41, 43, 45, 42, 47, 60, 61] : List Int32).getD j 0) (nI c).toInt8.toInt32 9 0 < 0 ↔ mrk (nI c) = false) := by decide +kernel
theorem X9_kindOf {x : Int32} (hx : x = -1 ∨ ∃ c : Nat, c < 256 ∧ x = nI c) (hd : 4 ≤ d) : VM G mX9_kindOf d 0 0 [.int x] (xE (some (.int (knd x))) h) h := by
  refine VM_start (ls := [some (.int x)]) rfl ?_
  unfold knd
  -- %m X9_kindOf
  refine V_iload_n (pc := 0) (i := 0) dX9_kindOf_0 rfl rfl ?_
  refine V_iconst (pc := 1) (v := -1) dX9_kindOf_1 (by decide) ?_
  refine V_icmp_ne (pc := 2) 7 dX9_kindOf_2 rfl (fun c2 => ?_) (fun c2 => ?_)
  · rw [if_neg c2]
    refine V_iload_n (pc := 7) (i := 0) dX9_kindOf_7 rfl rfl ?_
    refine V_bipush (pc := 8) (v := 97) dX9_kindOf_8 (by decide) ?_
    refine V_icmp_lt (pc := 10) 21 dX9_kindOf_10 rfl (fun c10 => ?_) (fun c10 => ?_)
    · rw [if_neg (fun q => by first | exact absurd q.1 (Int32.not_le.mpr c10) | exact absurd q.2 (Int32.not_le.mpr c16))]
      refine V_iload_n (pc := 21) (i := 0) dX9_kindOf_21 rfl rfl ?_
      refine V_bipush (pc := 22) (v := 48) dX9_kindOf_22 (by decide) ?_
      refine V_icmp_lt (pc := 24) 35 dX9_kindOf_24 rfl (fun c24 => ?_) (fun c24 => ?_)
      · rw [if_neg (fun q => by first | exact absurd q.1 (Int32.not_le.mpr c24) | exact absurd q.2 (Int32.not_le.mpr c30))]
        obtain ⟨c, hc, e⟩ := hx.resolve_left c2
        subst e
        refine V_ldcS (pc := 35) (i := 1) dX9_kindOf_35 rfl ?_
        refine V_iload_n (pc := 37) (i := 0) dX9_kindOf_37 rfl rfl ?_
        refine V_i2c (pc := 38) dX9_kindOf_38 (i2cN c hc) ?_
        refine V_s1 (pc := 39) dX9_kindOf_39 sX9_56 (i := 1) rfl (J0_indexOf (d := 3) rfl (by decide) hc (by omega)) (Nat.le_of_ble_eq_true rfl) (by omega) (Nat.le_of_ble_eq_true rfl) ?_
        have em := mrk_ix c hc
        refine V_if_lt (pc := 42) 49 dX9_kindOf_42 rfl (fun c42 => ?_) (fun c42 => ?_)
        · rw [if_neg (by rw [em.mp c42]; decide)]
          refine V_iconst (pc := 49) (v := 4) dX9_kindOf_49 (by decide) ?_
          exact VE_iret (pc := 50) dX9_kindOf_50 rfl rfl rfl
        · rw [if_pos (by cases hz : mrk (nI c) with | true => rfl | false => exact absurd (em.mpr hz) c42)]
          refine V_iconst (pc := 45) (v := 3) dX9_kindOf_45 (by decide) ?_
          refine V_goto (pc := 46) 50 dX9_kindOf_46 rfl ?_
          exact VE_iret (pc := 50) dX9_kindOf_50 rfl rfl rfl
      · refine V_iload_n (pc := 27) (i := 0) dX9_kindOf_27 rfl rfl ?_
        refine V_bipush (pc := 28) (v := 57) dX9_kindOf_28 (by decide) ?_
        refine V_icmp_gt (pc := 30) 35 dX9_kindOf_30 rfl (fun c30 => ?_) (fun c30 => ?_)
        · rw [if_neg (fun q => by first | exact absurd q.1 (Int32.not_le.mpr c24) | exact absurd q.2 (Int32.not_le.mpr c30))]
          obtain ⟨c, hc, e⟩ := hx.resolve_left c2
          subst e
          refine V_ldcS (pc := 35) (i := 1) dX9_kindOf_35 rfl ?_
          refine V_iload_n (pc := 37) (i := 0) dX9_kindOf_37 rfl rfl ?_
          refine V_i2c (pc := 38) dX9_kindOf_38 (i2cN c hc) ?_
          refine V_s1 (pc := 39) dX9_kindOf_39 sX9_56 (i := 1) rfl (J0_indexOf (d := 3) rfl (by decide) hc (by omega)) (Nat.le_of_ble_eq_true rfl) (by omega) (Nat.le_of_ble_eq_true rfl) ?_
          have em := mrk_ix c hc
          refine V_if_lt (pc := 42) 49 dX9_kindOf_42 rfl (fun c42 => ?_) (fun c42 => ?_)
          · rw [if_neg (by rw [em.mp c42]; decide)]
            refine V_iconst (pc := 49) (v := 4) dX9_kindOf_49 (by decide) ?_
            exact VE_iret (pc := 50) dX9_kindOf_50 rfl rfl rfl
          · rw [if_pos (by cases hz : mrk (nI c) with | true => rfl | false => exact absurd (em.mpr hz) c42)]
            refine V_iconst (pc := 45) (v := 3) dX9_kindOf_45 (by decide) ?_
            refine V_goto (pc := 46) 50 dX9_kindOf_46 rfl ?_
            exact VE_iret (pc := 50) dX9_kindOf_50 rfl rfl rfl
        · rw [if_pos ⟨Int32.not_lt.mp c24, Int32.not_lt.mp c30⟩]
          refine V_iconst (pc := 33) (v := 2) dX9_kindOf_33 (by decide) ?_
          exact VE_iret (pc := 34) dX9_kindOf_34 rfl rfl rfl
    · refine V_iload_n (pc := 13) (i := 0) dX9_kindOf_13 rfl rfl ?_
      refine V_bipush (pc := 14) (v := 122) dX9_kindOf_14 (by decide) ?_
      refine V_icmp_gt (pc := 16) 21 dX9_kindOf_16 rfl (fun c16 => ?_) (fun c16 => ?_)
      · rw [if_neg (fun q => by first | exact absurd q.1 (Int32.not_le.mpr c10) | exact absurd q.2 (Int32.not_le.mpr c16))]
        refine V_iload_n (pc := 21) (i := 0) dX9_kindOf_21 rfl rfl ?_
        refine V_bipush (pc := 22) (v := 48) dX9_kindOf_22 (by decide) ?_
        refine V_icmp_lt (pc := 24) 35 dX9_kindOf_24 rfl (fun c24 => ?_) (fun c24 => ?_)
        · rw [if_neg (fun q => by first | exact absurd q.1 (Int32.not_le.mpr c24) | exact absurd q.2 (Int32.not_le.mpr c30))]
          obtain ⟨c, hc, e⟩ := hx.resolve_left c2
          subst e
          refine V_ldcS (pc := 35) (i := 1) dX9_kindOf_35 rfl ?_
          refine V_iload_n (pc := 37) (i := 0) dX9_kindOf_37 rfl rfl ?_
          refine V_i2c (pc := 38) dX9_kindOf_38 (i2cN c hc) ?_
          refine V_s1 (pc := 39) dX9_kindOf_39 sX9_56 (i := 1) rfl (J0_indexOf (d := 3) rfl (by decide) hc (by omega)) (Nat.le_of_ble_eq_true rfl) (by omega) (Nat.le_of_ble_eq_true rfl) ?_
          have em := mrk_ix c hc
          refine V_if_lt (pc := 42) 49 dX9_kindOf_42 rfl (fun c42 => ?_) (fun c42 => ?_)
          · rw [if_neg (by rw [em.mp c42]; decide)]
            refine V_iconst (pc := 49) (v := 4) dX9_kindOf_49 (by decide) ?_
            exact VE_iret (pc := 50) dX9_kindOf_50 rfl rfl rfl
          · rw [if_pos (by cases hz : mrk (nI c) with | true => rfl | false => exact absurd (em.mpr hz) c42)]
            refine V_iconst (pc := 45) (v := 3) dX9_kindOf_45 (by decide) ?_
            refine V_goto (pc := 46) 50 dX9_kindOf_46 rfl ?_
            exact VE_iret (pc := 50) dX9_kindOf_50 rfl rfl rfl
        · refine V_iload_n (pc := 27) (i := 0) dX9_kindOf_27 rfl rfl ?_
          refine V_bipush (pc := 28) (v := 57) dX9_kindOf_28 (by decide) ?_
          refine V_icmp_gt (pc := 30) 35 dX9_kindOf_30 rfl (fun c30 => ?_) (fun c30 => ?_)
          · rw [if_neg (fun q => by first | exact absurd q.1 (Int32.not_le.mpr c24) | exact absurd q.2 (Int32.not_le.mpr c30))]
            obtain ⟨c, hc, e⟩ := hx.resolve_left c2
            subst e
            refine V_ldcS (pc := 35) (i := 1) dX9_kindOf_35 rfl ?_
            refine V_iload_n (pc := 37) (i := 0) dX9_kindOf_37 rfl rfl ?_
            refine V_i2c (pc := 38) dX9_kindOf_38 (i2cN c hc) ?_
            refine V_s1 (pc := 39) dX9_kindOf_39 sX9_56 (i := 1) rfl (J0_indexOf (d := 3) rfl (by decide) hc (by omega)) (Nat.le_of_ble_eq_true rfl) (by omega) (Nat.le_of_ble_eq_true rfl) ?_
            have em := mrk_ix c hc
            refine V_if_lt (pc := 42) 49 dX9_kindOf_42 rfl (fun c42 => ?_) (fun c42 => ?_)
            · rw [if_neg (by rw [em.mp c42]; decide)]
              refine V_iconst (pc := 49) (v := 4) dX9_kindOf_49 (by decide) ?_
              exact VE_iret (pc := 50) dX9_kindOf_50 rfl rfl rfl
            · rw [if_pos (by cases hz : mrk (nI c) with | true => rfl | false => exact absurd (em.mpr hz) c42)]
              refine V_iconst (pc := 45) (v := 3) dX9_kindOf_45 (by decide) ?_
              refine V_goto (pc := 46) 50 dX9_kindOf_46 rfl ?_
              exact VE_iret (pc := 50) dX9_kindOf_50 rfl rfl rfl
          · rw [if_pos ⟨Int32.not_lt.mp c24, Int32.not_lt.mp c30⟩]
            refine V_iconst (pc := 33) (v := 2) dX9_kindOf_33 (by decide) ?_
            exact VE_iret (pc := 34) dX9_kindOf_34 rfl rfl rfl
      · rw [if_pos ⟨Int32.not_lt.mp c10, Int32.not_lt.mp c16⟩]
        refine V_iconst (pc := 19) (v := 1) dX9_kindOf_19 (by decide) ?_
        exact VE_iret (pc := 20) dX9_kindOf_20 rfl rfl rfl
  · rw [if_pos c2]
    refine V_iconst (pc := 5) (v := 0) dX9_kindOf_5 (by decide) ?_
    exact VE_iret (pc := 6) dX9_kindOf_6 rfl rfl rfl
/-- blanks are passed over: m at most, from p on -/
def skB (B : Nat → Int32) (L : Nat) : Nat → Nat → Nat
  | 0, p => p
  | m + 1, p => if blk (bya B L p) then skB B L m (p + 1) else p
/-- as long as the kind is k: m at most, from p on -/
def runB (B : Nat → Int32) (L : Nat) (k : Int32) : Nat → Nat → Nat
  | 0, p => p
  | m + 1, p => if knd (bya B L p) = k then runB B L k m (p + 1) else p
theorem skB_le {B : Nat → Int32} {L : Nat} : ∀ (m p : Nat), p ≤ skB B L m p ∧ skB B L m p ≤ p + m := by
  intro m
  induction m with
  | zero => intro p; exact ⟨Nat.le_refl _, Nat.le_refl _⟩
  | succ m ih =>
    intro p
    rw [skB]
    split
    · have := ih (p + 1); omega
    · omega
theorem runB_le {B : Nat → Int32} {L : Nat} {k : Int32} : ∀ (m p : Nat), p ≤ runB B L k m p ∧ runB B L k m p ≤ p + m := by
  intro m
  induction m with
  | zero => intro p; exact ⟨Nat.le_refl _, Nat.le_refl _⟩
  | succ m ih =>
    intro p
    rw [runB]
    split
    · have := ih (p + 1); omega
    · omega
/-- the TOKEN from p on: its place, its kind, its end -/
def tkP (B : Nat → Int32) (L p : Nat) : Nat := skB B L (L - p) p
def tkK (B : Nat → Int32) (L p : Nat) : Int32 := knd (bya B L (tkP B L p))
def tkN (B : Nat → Int32) (L p : Nat) : Nat := min (tkP B L p + 1) L
def tkE (B : Nat → Int32) (L p : Nat) : Nat := if tkK B L p = 1 ∨ tkK B L p = 2 then runB B L (tkK B L p) (L - tkN B L p) (tkN B L p) else tkN B L p
theorem tkP_le {B : Nat → Int32} {L p : Nat} (h : p ≤ L) : p ≤ tkP B L p ∧ tkP B L p ≤ L := by
  have := skB_le (B := B) (L := L) (L - p) p
  unfold tkP
  omega
theorem tkE_le {B : Nat → Int32} {L p : Nat} (h : p ≤ L) : tkP B L p ≤ tkE B L p ∧ tkE B L p ≤ L ∧ tkN B L p ≤ tkE B L p := by
  have h1 := tkP_le (B := B) h
  have h2 : tkN B L p = min (tkP B L p + 1) L := rfl
  unfold tkE
  split
  · have := runB_le (B := B) (L := L) (k := tkK B L p) (L - tkN B L p) (tkN B L p)
    omega
  · omega
def advS (S : Nat → Nat → Int32) (L p : Nat) : Nat → Nat → Int32 := up2 (up2 (up2 (up2 S 2 5 (nI (tkP (S 3) L p))) 2 3 (bya (S 3) L (tkP (S 3) L p))) 2 6 (tkK (S 3) L p)) 2 2 (nI (tkE (S 3) L p))
theorem up2_up2 {k j : Nat} {x y : Int32} : up2 (up2 S k j x) k j y = up2 S k j y := by
  funext k' j'
  by_cases e : k' = k
  · subst e
    by_cases e2 : j' = j
    · subst e2; rw [up2_same, up2_same]
    · rw [up2_col e2, up2_col e2, up2_col e2]
  · rw [up2_row e, up2_row e, up2_row e]
theorem mnI_nI {x y : Nat} (hx : x < 2 ^ 31) (hy : y < 2 ^ 31) : (if nI y < nI x then nI y else nI x) = nI (min x y) := by
  by_cases h : y < x
  · rw [if_pos (nI_lt h hx), Nat.min_eq_right (by omega)]
  · rw [if_neg (nI_nlt (by omega) hy), Nat.min_eq_left (by omega)]
theorem X9_advance {L p : Nat} (hL : S 2 1 = nI L) (h7 : L ≤ 700) (hp : S 2 2 = nI p) (hpL : p ≤ L) (hb : gB G ≤ b) (hd : 5 ≤ d) : VM G mX9_advance d 0 0 [.ref (b + 2)] (xE none (wH G b tbC (advS S L p) h0)) (wH G b tbC S h0) := by
  have l1 := tkP_le (B := S 3) hpL
  have l2 := tkE_le (B := S 3) hpL
  refine VM_start (ls := [some (.ref (b + 2))]) rfl ?_
  -- %m X9_advance
  refine V_aload_n (pc := 0) (i := 0) dX9_advance_0 rfl rfl ?_
  refine V_aload_n (pc := 1) (i := 0) dX9_advance_1 rfl rfl ?_
  refine VW_getI (pc := 2) dX9_advance_2 fX9_19 (by first | assumption | rfl) rfl ?_
  rw [hp]
  refine VW_putI (pc := 5) dX9_advance_5 fX9_28 ftX9 (fpI rfl rfl (tyX9_ok 5 (by decide))) (by first | assumption | rfl) rfl (by assumption) ?_
  -- blanks
  have sk : ∀ (m q : Nat) (Q : xR → xH → Prop), m + q = L → V G mX9_advance d 0 0 Q 46 [some (.ref (b + 2))] [] (wH G b tbC (up2 S 2 5 (nI (skB (S 3) L m q))) h0) → V G mX9_advance d 0 0 Q 8 [some (.ref (b + 2))] [] (wH G b tbC (up2 S 2 5 (nI q)) h0) := by
    intro m
    induction m with
    | zero =>
      intro q Q hm k
      refine V_aload_n (pc := 8) (i := 0) dX9_advance_8 rfl rfl ?_
      refine VW_getI (pc := 9) dX9_advance_9 fX9_28 (by first | assumption | rfl) rfl ?_
      refine V_aload_n (pc := 12) (i := 0) dX9_advance_12 rfl rfl ?_
      refine VW_getI (pc := 13) dX9_advance_13 fX9_15 (by first | assumption | rfl) rfl ?_
      rw [up2_same, up2_col (by decide), hL]
      refine V_icmp_ge (pc := 16) 46 dX9_advance_16 rfl (fun c => k) (fun c => absurd (nI_le (by omega) (by omega)) c)
    | succ m ih =>
      intro q Q hm k
      rw [skB] at k
      refine V_aload_n (pc := 8) (i := 0) dX9_advance_8 rfl rfl ?_
      refine VW_getI (pc := 9) dX9_advance_9 fX9_28 (by first | assumption | rfl) rfl ?_
      refine V_aload_n (pc := 12) (i := 0) dX9_advance_12 rfl rfl ?_
      refine VW_getI (pc := 13) dX9_advance_13 fX9_15 (by first | assumption | rfl) rfl ?_
      rw [up2_same, up2_col (by decide), hL]
      refine V_icmp_ge (pc := 16) 46 dX9_advance_16 rfl (fun c => absurd c (nI_ge (by omega) (by omega))) (fun c => ?_)
      refine V_aload_n (pc := 19) (i := 0) dX9_advance_19 rfl rfl ?_
      refine V_aload_n (pc := 20) (i := 0) dX9_advance_20 rfl rfl ?_
      refine VW_getI (pc := 21) dX9_advance_21 fX9_28 (by first | assumption | rfl) rfl ?_
      rw [up2_same]
      refine V_V1i (pc := 24) dX9_advance_24 cX9_43 (by first | assumption | rfl) (X9_byteAt (L := L) (d := 0) (by rw [up2_col (by decide)]; exact hL) h7 (by omega)) (Nat.le_of_ble_eq_true rfl) (by omega) (Nat.le_of_ble_eq_true rfl) ?_
      refine V_S1i (pc := 27) dX9_advance_27 cX9_47 (X9_isBlank (d := 0) _) (Nat.le_of_ble_eq_true rfl) (by omega) (Nat.le_of_ble_eq_true rfl) ?_
      rw [up2_row (by decide)]
      refine V_if_eq (pc := 30) 46 dX9_advance_30 rfl (fun c30 => ?_) (fun c30 => ?_)
      · rw [if_neg (by rw [b2i_0.mp c30]; decide)] at k
        exact k
      · rw [if_pos (b2i_n0.mp c30)] at k
        refine V_aload_n (pc := 33) (i := 0) dX9_advance_33 rfl rfl ?_
        refine V_dup (pc := 34) dX9_advance_34 rfl ?_
        refine VW_getI (pc := 35) dX9_advance_35 fX9_28 (by first | assumption | rfl) rfl ?_
        rw [up2_same]
        refine V_iconst (pc := 38) (v := 1) dX9_advance_38 (by decide) ?_
        refine V_iadd (pc := 39) dX9_advance_39 ?_
        rw [nI_1]
        refine VW_putI (pc := 40) dX9_advance_40 fX9_28 ftX9 (fpI rfl rfl (tyX9_ok 5 (by decide))) (by first | assumption | rfl) rfl (by assumption) ?_
        rw [up2_up2]
        refine V_goto (pc := 43) 8 dX9_advance_43 rfl ?_
        exact ih (q + 1) Q (by omega) k
  refine sk (L - p) p _ (by omega) ?_
  show V G mX9_advance d 0 0 _ 46 _ _ (wH G b tbC (up2 S 2 5 (nI (tkP (S 3) L p))) h0)
  refine V_aload_n (pc := 46) (i := 0) dX9_advance_46 rfl rfl ?_
  refine V_aload_n (pc := 47) (i := 0) dX9_advance_47 rfl rfl ?_
  refine V_aload_n (pc := 48) (i := 0) dX9_advance_48 rfl rfl ?_
  refine VW_getI (pc := 49) dX9_advance_49 fX9_28 (by first | assumption | rfl) rfl ?_
  rw [up2_same]
  refine V_V1i (pc := 52) dX9_advance_52 cX9_43 (by first | assumption | rfl) (X9_byteAt (L := L) (d := 0) (by rw [up2_col (by decide)]; exact hL) h7 (by omega)) (Nat.le_of_ble_eq_true rfl) (by omega) (Nat.le_of_ble_eq_true rfl) ?_
  rw [up2_row (by decide)]
  refine VW_putI (pc := 55) dX9_advance_55 fX9_22 ftX9 (fpI rfl rfl (tyX9_ok 3 (by decide))) (by first | assumption | rfl) rfl (by assumption) ?_
  refine V_aload_n (pc := 58) (i := 0) dX9_advance_58 rfl rfl ?_
  refine V_aload_n (pc := 59) (i := 0) dX9_advance_59 rfl rfl ?_
  refine VW_getI (pc := 60) dX9_advance_60 fX9_22 (by first | assumption | rfl) rfl ?_
  rw [up2_same]
  refine V_S1i (pc := 63) dX9_advance_63 cX9_51 (X9_kindOf (d := 4) (bya_or _ _ _) (by omega)) (Nat.le_of_ble_eq_true rfl) (by omega) (Nat.le_of_ble_eq_true rfl) ?_
  refine VW_putI (pc := 66) dX9_advance_66 fX9_31 ftX9 (fpI rfl rfl (tyX9_ok 6 (by decide))) (by first | assumption | rfl) rfl (by assumption) ?_
  refine V_aload_n (pc := 69) (i := 0) dX9_advance_69 rfl rfl ?_
  refine V_aload_n (pc := 70) (i := 0) dX9_advance_70 rfl rfl ?_
  refine VW_getI (pc := 71) dX9_advance_71 fX9_28 (by first | assumption | rfl) rfl ?_
  refine V_iconst (pc := 74) (v := 1) dX9_advance_74 (by decide) ?_
  refine V_iadd (pc := 75) dX9_advance_75 ?_
  refine V_aload_n (pc := 76) (i := 0) dX9_advance_76 rfl rfl ?_
  refine VW_getI (pc := 77) dX9_advance_77 fX9_15 (by first | assumption | rfl) rfl ?_
  simp only [up2_col (show (5 : Nat) ≠ 6 by decide), up2_col (show (5 : Nat) ≠ 3 by decide), up2_col (show (1 : Nat) ≠ 6 by decide), up2_col (show (1 : Nat) ≠ 3 by decide), up2_col (show (1 : Nat) ≠ 5 by decide), up2_same, hL, nI_1]
  refine V_min (pc := 80) dX9_advance_80 cX9_34 w_minS w_mathI w_minC (by omega) (Nat.le_of_ble_eq_true rfl) ?_
  rw [mnI_nI (by omega) (by omega)]
  refine VW_putI (pc := 83) dX9_advance_83 fX9_19 ftX9 (fpI rfl rfl (tyX9_ok 2 (by decide))) (by first | assumption | rfl) rfl (by assumption) ?_
  refine V_aload_n (pc := 86) (i := 0) dX9_advance_86 rfl rfl ?_
  refine VW_getI (pc := 87) dX9_advance_87 fX9_31 (by first | assumption | rfl) rfl ?_
  have e6 : up2 (up2 (up2 (up2 S 2 5 (nI (tkP (S 3) L p))) 2 3 (bya (S 3) L (tkP (S 3) L p))) 2 6 (knd (bya (S 3) L (tkP (S 3) L p)))) 2 2 (nI (tkN (S 3) L p)) 2 6 = tkK (S 3) L p := by rw [up2_col (by decide), up2_same]; rfl
  have e1 : ∀ x : Int32, up2 (up2 (up2 (up2 S 2 5 (nI (tkP (S 3) L p))) 2 3 (bya (S 3) L (tkP (S 3) L p))) 2 6 (knd (bya (S 3) L (tkP (S 3) L p)))) 2 2 x 2 1 = nI L := fun x => by rw [up2_col (by decide), up2_col (by decide), up2_col (by decide), up2_col (by decide)]; exact hL
  have e7 : ∀ x : Int32, up2 (up2 (up2 (up2 S 2 5 (nI (tkP (S 3) L p))) 2 3 (bya (S 3) L (tkP (S 3) L p))) 2 6 (knd (bya (S 3) L (tkP (S 3) L p)))) 2 2 x 2 6 = tkK (S 3) L p := fun x => by rw [up2_col (by decide), up2_same]; rfl
  have e3 : ∀ x : Int32, up2 (up2 (up2 (up2 S 2 5 (nI (tkP (S 3) L p))) 2 3 (bya (S 3) L (tkP (S 3) L p))) 2 6 (knd (bya (S 3) L (tkP (S 3) L p)))) 2 2 x 3 = S 3 := fun x => by rw [up2_row (by decide), up2_row (by decide), up2_row (by decide), up2_row (by decide)]
  show V G mX9_advance d 0 0 _ 90 _ [.int (up2 (up2 (up2 (up2 S 2 5 (nI (tkP (S 3) L p))) 2 3 (bya (S 3) L (tkP (S 3) L p))) 2 6 (knd (bya (S 3) L (tkP (S 3) L p)))) 2 2 (nI (tkN (S 3) L p)) 2 6)] (wH G b tbC (up2 (up2 (up2 (up2 S 2 5 (nI (tkP (S 3) L p))) 2 3 (bya (S 3) L (tkP (S 3) L p))) 2 6 (knd (bya (S 3) L (tkP (S 3) L p)))) 2 2 (nI (tkN (S 3) L p))) h0)
  have ea : advS S L p = up2 (up2 (up2 (up2 S 2 5 (nI (tkP (S 3) L p))) 2 3 (bya (S 3) L (tkP (S 3) L p))) 2 6 (knd (bya (S 3) L (tkP (S 3) L p)))) 2 2 (nI (tkE (S 3) L p)) := rfl
  rw [ea]
  have e2 : ∀ x : Int32, up2 (up2 (up2 (up2 S 2 5 (nI (tkP (S 3) L p))) 2 3 (bya (S 3) L (tkP (S 3) L p))) 2 6 (knd (bya (S 3) L (tkP (S 3) L p)))) 2 2 x = up2 (up2 (up2 (up2 S 2 5 (nI (tkP (S 3) L p))) 2 3 (bya (S 3) L (tkP (S 3) L p))) 2 6 (knd (bya (S 3) L (tkP (S 3) L p)))) 2 2 x := fun x => rfl
  generalize hU : up2 (up2 (up2 S 2 5 (nI (tkP (S 3) L p))) 2 3 (bya (S 3) L (tkP (S 3) L p))) 2 6 (knd (bya (S 3) L (tkP (S 3) L p))) = U at e6 e1 e7 e3 ⊢
  rw [e6]
  -- as long as the kind is the same
  have rn : tkK (S 3) L p = 1 ∨ tkK (S 3) L p = 2 → V G mX9_advance d 0 0 (xE none (wH G b tbC (up2 U 2 2 (nI (tkE (S 3) L p))) h0)) 102 [some (.ref (b + 2))] [] (wH G b tbC (up2 U 2 2 (nI (tkN (S 3) L p))) h0) := by
    intro hk
    have eE : tkE (S 3) L p = runB (S 3) L (tkK (S 3) L p) (L - tkN (S 3) L p) (tkN (S 3) L p) := by rw [tkE, if_pos hk]
    rw [eE]
    have loop : ∀ (m q : Nat), m + q = L → V G mX9_advance d 0 0 (xE none (wH G b tbC (up2 U 2 2 (nI (runB (S 3) L (tkK (S 3) L p) m q))) h0)) 102 [some (.ref (b + 2))] [] (wH G b tbC (up2 U 2 2 (nI q)) h0) := by
      intro m
      induction m with
      | zero =>
        intro q hm
        refine V_aload_n (pc := 102) (i := 0) dX9_advance_102 rfl rfl ?_
        refine VW_getI (pc := 103) dX9_advance_103 fX9_19 (by first | assumption | rfl) rfl ?_
        refine V_aload_n (pc := 106) (i := 0) dX9_advance_106 rfl rfl ?_
        refine VW_getI (pc := 107) dX9_advance_107 fX9_15 (by first | assumption | rfl) rfl ?_
        rw [up2_same, e1]
        refine V_icmp_ge (pc := 110) 144 dX9_advance_110 rfl (fun c => ?_) (fun c => absurd (nI_le (by omega) (by omega)) c)
        exact VE_vret (pc := 144) dX9_advance_144 rfl rfl
      | succ m ih =>
        intro q hm
        rw [runB]
        refine V_aload_n (pc := 102) (i := 0) dX9_advance_102 rfl rfl ?_
        refine VW_getI (pc := 103) dX9_advance_103 fX9_19 (by first | assumption | rfl) rfl ?_
        refine V_aload_n (pc := 106) (i := 0) dX9_advance_106 rfl rfl ?_
        refine VW_getI (pc := 107) dX9_advance_107 fX9_15 (by first | assumption | rfl) rfl ?_
        rw [up2_same, e1]
        refine V_icmp_ge (pc := 110) 144 dX9_advance_110 rfl (fun c => absurd c (nI_ge (by omega) (by omega))) (fun c => ?_)
        refine V_aload_n (pc := 113) (i := 0) dX9_advance_113 rfl rfl ?_
        refine V_aload_n (pc := 114) (i := 0) dX9_advance_114 rfl rfl ?_
        refine VW_getI (pc := 115) dX9_advance_115 fX9_19 (by first | assumption | rfl) rfl ?_
        rw [up2_same]
        refine V_V1i (pc := 118) dX9_advance_118 cX9_43 (by first | assumption | rfl) (X9_byteAt (L := L) (d := 0) (e1 _) h7 (by omega)) (Nat.le_of_ble_eq_true rfl) (by omega) (Nat.le_of_ble_eq_true rfl) ?_
        refine V_S1i (pc := 121) dX9_advance_121 cX9_51 (X9_kindOf (d := 4) (bya_or _ _ _) (by omega)) (Nat.le_of_ble_eq_true rfl) (by omega) (Nat.le_of_ble_eq_true rfl) ?_
        refine V_aload_n (pc := 124) (i := 0) dX9_advance_124 rfl rfl ?_
        refine VW_getI (pc := 125) dX9_advance_125 fX9_31 (by first | assumption | rfl) rfl ?_
        rw [e7, e3]
        refine V_icmp_ne (pc := 128) 144 dX9_advance_128 rfl (fun c128 => ?_) (fun c128 => ?_)
        · rw [if_neg c128]
          exact VE_vret (pc := 144) dX9_advance_144 rfl rfl
        · rw [if_pos c128]
          refine V_aload_n (pc := 131) (i := 0) dX9_advance_131 rfl rfl ?_
          refine V_dup (pc := 132) dX9_advance_132 rfl ?_
          refine VW_getI (pc := 133) dX9_advance_133 fX9_19 (by first | assumption | rfl) rfl ?_
          rw [up2_same]
          refine V_iconst (pc := 136) (v := 1) dX9_advance_136 (by decide) ?_
          refine V_iadd (pc := 137) dX9_advance_137 ?_
          rw [nI_1]
          refine VW_putI (pc := 138) dX9_advance_138 fX9_19 ftX9 (fpI rfl rfl (tyX9_ok 2 (by decide))) (by first | assumption | rfl) rfl (by assumption) ?_
          rw [up2_up2]
          refine V_goto (pc := 141) 102 dX9_advance_141 rfl ?_
          exact ih (q + 1) (by omega)
    exact loop _ _ (by have : tkN (S 3) L p = min (tkP (S 3) L p + 1) L := rfl; omega)
  refine V_iconst (pc := 90) (v := 1) dX9_advance_90 (by decide) ?_
  refine V_icmp_eq (pc := 91) 102 dX9_advance_91 rfl (fun c91 => ?_) (fun c91 => ?_)
  · exact rn (Or.inl c91)
  · refine V_aload_n (pc := 94) (i := 0) dX9_advance_94 rfl rfl ?_
    refine VW_getI (pc := 95) dX9_advance_95 fX9_31 (by first | assumption | rfl) rfl ?_
    rw [e6]
    refine V_iconst (pc := 98) (v := 2) dX9_advance_98 (by decide) ?_
    refine V_icmp_ne (pc := 99) 144 dX9_advance_99 rfl (fun c99 => ?_) (fun c99 => ?_)
    · have eE : tkE (S 3) L p = tkN (S 3) L p := by rw [tkE, if_neg (fun q => q.elim c91 c99)]
      rw [eE]
      exact VE_vret (pc := 144) dX9_advance_144 rfl rfl
    · exact rn (Or.inr c99)
end Tp
