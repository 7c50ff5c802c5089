/-! ===== Tape: a TOKEN's word, sign, number; the feed ===== -/
section Tp2
variable {G : xG} {d : Nat} {b : Nat} {S : Nat → Nat → Int32} {h0 h : xH}
def tL (S : Nat → Nat → Int32) : Nat := (S 2 1).toNatClampNeg
def tP (S : Nat → Nat → Int32) : Nat := (S 2 5).toNatClampNeg
def tE (S : Nat → Nat → Int32) : Nat := (S 2 2).toNatClampNeg
/-- the TOKEN that stands -/
def TI (S : Nat → Nat → Int32) : Prop := S 2 1 = nI (tL S) ∧ tL S ≤ 700 ∧ S 2 5 = nI (tP S) ∧ S 2 2 = nI (tE S) ∧ tP S ≤ tE S ∧ tE S ≤ tL S
def adv (S : Nat → Nat → Int32) : Nat → Nat → Int32 := advS S (tL S) (tE S)
theorem adv_off {k : Nat} (h : k ≠ 2) : adv S k = S k := by
  rw [adv, advS, up2_row h, up2_row h, up2_row h, up2_row h]
theorem adv_1 : adv S 2 1 = S 2 1 := by
  rw [adv, advS, up2_col (by decide), up2_col (by decide), up2_col (by decide), up2_col (by decide)]
theorem adv_4 : adv S 2 4 = S 2 4 := by
  rw [adv, advS, up2_col (by decide), up2_col (by decide), up2_col (by decide), up2_col (by decide)]
theorem adv_5 : adv S 2 5 = nI (tkP (S 3) (tL S) (tE S)) := by
  rw [adv, advS, up2_col (by decide), up2_col (by decide), up2_col (by decide), up2_same]
theorem adv_3 : adv S 2 3 = bya (S 3) (tL S) (tkP (S 3) (tL S) (tE S)) := by
  rw [adv, advS, up2_col (by decide), up2_col (by decide), up2_same]
theorem adv_6 : adv S 2 6 = tkK (S 3) (tL S) (tE S) := by
  rw [adv, advS, up2_col (by decide), up2_same]
theorem adv_2 : adv S 2 2 = nI (tkE (S 3) (tL S) (tE S)) := by
  rw [adv, advS, up2_same]
theorem TI_adv (t : TI S) : TI (adv S) ∧ tL (adv S) = tL S ∧ tP (adv S) = tkP (S 3) (tL S) (tE S) ∧ tE (adv S) = tkE (S 3) (tL S) (tE S) := by
  obtain ⟨t1, t2, t3, t4, t5, t6⟩ := t
  have l1 := tkP_le (B := S 3) t6
  have l2 := tkE_le (B := S 3) t6
  have e1 : tL (adv S) = tL S := by rw [tL, adv_1]; rfl
  have e2 : tP (adv S) = tkP (S 3) (tL S) (tE S) := by rw [tP, adv_5, nI_clamp (by omega)]
  have e3 : tE (adv S) = tkE (S 3) (tL S) (tE S) := by rw [tE, adv_2, nI_clamp (by omega)]
  exact ⟨⟨by rw [e1, adv_1]; exact t1, by rw [e1]; exact t2, by rw [e2, adv_5], by rw [e3, adv_2], by rw [e2, e3]; omega, by rw [e3, e1]; omega⟩, e1, e2, e3⟩
theorem X9_adv (t : TI S) (hb : gB G ≤ b) (hd : 5 ≤ d) : VM G mX9_advance d 0 0 [.ref (b + 2)] (xE none (wH G b tbC (adv S) h0)) (wH G b tbC S h0) := X9_advance t.1 t.2.1 t.2.2.2.1 t.2.2.2.2.2 hb hd
/-- whether the sign c stands -/
def sgn (S : Nat → Nat → Int32) (c : Int32) : Bool := decide (S 2 6 = 3) && decide (S 2 3 = c)
theorem X9_signIs (c : Int32) : VM G mX9_signIs d 0 0 [.ref (b + 2), .int c] (xE (some (.int (b2i (sgn S c)))) (wH G b tbC S h0)) (wH G b tbC S h0) := by
  refine VM_start (ls := [some (.ref (b + 2)), some (.int c)]) rfl ?_
  -- %m X9_signIs
  refine V_aload_n (pc := 0) (i := 0) dX9_signIs_0 rfl rfl ?_
  refine VW_getI (pc := 1) dX9_signIs_1 fX9_31 (by first | assumption | rfl) rfl ?_
  refine V_iconst (pc := 4) (v := 3) dX9_signIs_4 (by decide) ?_
  refine V_icmp_ne (pc := 5) 20 dX9_signIs_5 rfl (fun c5 => ?_) (fun c5 => ?_)
  · refine V_iconst (pc := 20) (v := 0) dX9_signIs_20 (by decide) ?_
    exact VE_zret (pc := 21) dX9_signIs_21 rfl (by first | exact Or.inl rfl | exact Or.inr rfl) (by simp [b2i, sgn, *]) rfl
  · refine V_aload_n (pc := 8) (i := 0) dX9_signIs_8 rfl rfl ?_
    refine VW_getI (pc := 9) dX9_signIs_9 fX9_22 (by first | assumption | rfl) rfl ?_
    refine V_iload_n (pc := 12) (i := 1) dX9_signIs_12 rfl rfl ?_
    refine V_icmp_ne (pc := 13) 20 dX9_signIs_13 rfl (fun c13 => ?_) (fun c13 => ?_)
    · refine V_iconst (pc := 20) (v := 0) dX9_signIs_20 (by decide) ?_
      exact VE_zret (pc := 21) dX9_signIs_21 rfl (by first | exact Or.inl rfl | exact Or.inr rfl) (by simp [b2i, sgn, *]) rfl
    · refine V_iconst (pc := 16) (v := 1) dX9_signIs_16 (by decide) ?_
      refine V_goto (pc := 17) 21 dX9_signIs_17 rfl ?_
      exact VE_zret (pc := 21) dX9_signIs_21 rfl (by first | exact Or.inl rfl | exact Or.inr rfl) (by simp [b2i, sgn, *]) rfl
/-- the NUMBER that stands: m digits from i on -/
def numF (B : Nat → Int32) (L : Nat) : Nat → Nat → Int32 → Int32
  | 0, _, x => x
  | m + 1, i, x => numF B L m (i + 1) (x * 10 + bya B L i - 48)
def numH (S : Nat → Nat → Int32) : Int32 := if S 2 6 = 2 ∧ tE S - tP S ≤ 4 then numF (S 3) (tL S) (tE S - tP S) (tP S) 0 else -1
theorem X9_numberHere (t : TI S) (hd : 1 ≤ d) : VM G mX9_numberHere d 0 0 [.ref (b + 2)] (xE (some (.int (numH S))) (wH G b tbC S h0)) (wH G b tbC S h0) := by
  obtain ⟨t1, t2, t3, t4, t5, t6⟩ := t
  refine VM_start (ls := [some (.ref (b + 2)), none, none]) rfl ?_
  unfold numH
  -- %m X9_numberHere
  refine V_aload_n (pc := 0) (i := 0) dX9_numberHere_0 rfl rfl ?_
  refine VW_getI (pc := 1) dX9_numberHere_1 fX9_31 (by first | assumption | rfl) rfl ?_
  refine V_iconst (pc := 4) (v := 2) dX9_numberHere_4 (by decide) ?_
  refine V_icmp_ne (pc := 5) 21 dX9_numberHere_5 rfl (fun c5 => ?_) (fun c5 => ?_)
  · rw [if_neg (fun q => c5 q.1)]
    refine V_iconst (pc := 21) (v := -1) dX9_numberHere_21 (by decide) ?_
    exact VE_iret (pc := 22) dX9_numberHere_22 rfl rfl rfl
  · refine V_aload_n (pc := 8) (i := 0) dX9_numberHere_8 rfl rfl ?_
    refine VW_getI (pc := 9) dX9_numberHere_9 fX9_19 (by first | assumption | rfl) rfl ?_
    refine V_aload_n (pc := 12) (i := 0) dX9_numberHere_12 rfl rfl ?_
    refine VW_getI (pc := 13) dX9_numberHere_13 fX9_28 (by first | assumption | rfl) rfl ?_
    rw [t3, t4]
    refine V_isub (pc := 16) dX9_numberHere_16 ?_
    rw [pk_sub (by omega)]
    refine V_iconst (pc := 17) (v := 4) dX9_numberHere_17 (by decide) ?_
    refine V_icmp_le (pc := 18) 23 dX9_numberHere_18 rfl (fun c18 => ?_) (fun c18 => ?_)
    · have h4 : tE S - tP S ≤ 4 := (nI_leI (by omega) (by decide)).mp c18
      rw [if_pos ⟨c5, h4⟩]
      refine V_iconst (pc := 23) (v := 0) dX9_numberHere_23 (by decide) ?_
      refine V_istore_n (pc := 24) (i := 1) dX9_numberHere_24 rfl (by decide) rfl ?_
      refine V_aload_n (pc := 25) (i := 0) dX9_numberHere_25 rfl rfl ?_
      refine VW_getI (pc := 26) dX9_numberHere_26 fX9_28 (by first | assumption | rfl) rfl ?_
      rw [t3]
      refine V_istore_n (pc := 29) (i := 2) dX9_numberHere_29 rfl (by decide) rfl ?_
      have loop : ∀ (m i : Nat) (x : Int32), m + i = tE S → V G mX9_numberHere d 0 0 (xE (some (.int (numF (S 3) (tL S) m i x))) (wH G b tbC S h0)) 30 [some (.ref (b + 2)), some (.int x), some (.int (nI i))] [] (wH G b tbC S h0) := by
        intro m
        induction m with
        | zero =>
          intro i x hm
          refine V_iload_n (pc := 30) (i := 2) dX9_numberHere_30 rfl rfl ?_
          refine V_aload_n (pc := 31) (i := 0) dX9_numberHere_31 rfl rfl ?_
          refine VW_getI (pc := 32) dX9_numberHere_32 fX9_19 (by first | assumption | rfl) rfl ?_
          refine V_icmp_ge (pc := 35) 58 dX9_numberHere_35 rfl (fun c35 => ?_) (fun c35 => ?_)
          · refine V_iload_n (pc := 58) (i := 1) dX9_numberHere_58 rfl rfl ?_
            exact VE_iret (pc := 59) dX9_numberHere_59 rfl rfl rfl
          · exact absurd (by rw [t4, show i = tE S by omega]; exact nI_le (by omega) (by omega)) c35
        | succ m ih =>
          intro i x hm
          rw [numF]
          refine V_iload_n (pc := 30) (i := 2) dX9_numberHere_30 rfl rfl ?_
          refine V_aload_n (pc := 31) (i := 0) dX9_numberHere_31 rfl rfl ?_
          refine VW_getI (pc := 32) dX9_numberHere_32 fX9_19 (by first | assumption | rfl) rfl ?_
          refine V_icmp_ge (pc := 35) 58 dX9_numberHere_35 rfl (fun c35 => ?_) (fun c35 => ?_)
          · exact absurd c35 (by rw [t4]; exact nI_ge (by omega) (by omega))
          · refine V_iload_n (pc := 38) (i := 1) dX9_numberHere_38 rfl rfl ?_
            refine V_bipush (pc := 39) (v := 10) dX9_numberHere_39 (by decide) ?_
            refine V_imul (pc := 41) dX9_numberHere_41 ?_
            refine V_aload_n (pc := 42) (i := 0) dX9_numberHere_42 rfl rfl ?_
            refine V_iload_n (pc := 43) (i := 2) dX9_numberHere_43 rfl rfl ?_
            refine V_V1i (pc := 44) dX9_numberHere_44 cX9_43 (by first | assumption | rfl) (X9_byteAt (L := tL S) (d := 0) t1 t2 (by omega)) (Nat.le_of_ble_eq_true rfl) (by omega) (Nat.le_of_ble_eq_true rfl) ?_
            refine V_iadd (pc := 47) dX9_numberHere_47 ?_
            refine V_bipush (pc := 48) (v := 48) dX9_numberHere_48 (by decide) ?_
            refine V_isub (pc := 50) dX9_numberHere_50 ?_
            refine V_istore_n (pc := 51) (i := 1) dX9_numberHere_51 rfl (by decide) rfl ?_
            refine V_iinc (pc := 52) dX9_numberHere_52 (by decide) rfl rfl (iincN (n := 1) (by decide)) ?_
            refine V_goto (pc := 55) 30 dX9_numberHere_55 rfl ?_
            exact ih (i + 1) _ (by omega)
      exact loop _ _ _ (by omega)
    · rw [if_neg (fun q => c18 (nI_le (b := 4) q.2 (by decide)))]
      refine V_iconst (pc := 21) (v := -1) dX9_numberHere_21 (by decide) ?_
      exact VE_iret (pc := 22) dX9_numberHere_22 rfl rfl rfl
/-- whether the bytes from p on are those of l: m from k on -/
def wrdF (B : Nat → Int32) (L p : Nat) (l : List Int32) : Nat → Nat → Bool
  | 0, _ => true
  | m + 1, k => if bya B L (p + k) = l.getD k 0 then wrdF B L p l m (k + 1) else false
/-- whether the word l stands -/
def wrd (S : Nat → Nat → Int32) (l : List Int32) : Bool := decide (S 2 6 = 1) && decide (tE S - tP S = l.length) && wrdF (S 3) (tL S) (tP S) l l.length 0
theorem X9_wordIs {i : Nat} {q : String × Nat × String × List Int32} (hi : xStr[i]? = some q) (t : TI S) (hd : 4 ≤ d) : VM G mX9_wordIs d 0 0 [.ref (b + 2), .ref (gK G i)] (xE (some (.int (b2i (wrd S q.2.2.2)))) (wH G b tbC S h0)) (wH G b tbC S h0) := by
  have hl := xStr_len hi
  obtain ⟨t1, t2, t3, t4, t5, t6⟩ := t
  refine VM_start (ls := [some (.ref (b + 2)), some (.ref (gK G i)), none]) rfl ?_
  -- %m X9_wordIs
  refine V_aload_n (pc := 0) (i := 0) dX9_wordIs_0 rfl rfl ?_
  refine VW_getI (pc := 1) dX9_wordIs_1 fX9_31 (by first | assumption | rfl) rfl ?_
  refine V_iconst (pc := 4) (v := 1) dX9_wordIs_4 (by decide) ?_
  refine V_icmp_ne (pc := 5) 24 dX9_wordIs_5 rfl (fun c5 => ?_) (fun c5 => ?_)
  · refine V_iconst (pc := 24) (v := 0) dX9_wordIs_24 (by decide) ?_
    exact VE_zret (pc := 25) dX9_wordIs_25 rfl (Or.inl rfl) (by simp [b2i, wrd, c5]) rfl
  · refine V_aload_n (pc := 8) (i := 0) dX9_wordIs_8 rfl rfl ?_
    refine VW_getI (pc := 9) dX9_wordIs_9 fX9_19 (by first | assumption | rfl) rfl ?_
    refine V_aload_n (pc := 12) (i := 0) dX9_wordIs_12 rfl rfl ?_
    refine VW_getI (pc := 13) dX9_wordIs_13 fX9_28 (by first | assumption | rfl) rfl ?_
    rw [t3, t4]
    refine V_isub (pc := 16) dX9_wordIs_16 ?_
    rw [pk_sub (by omega)]
    refine V_aload_n (pc := 17) (i := 1) dX9_wordIs_17 rfl rfl ?_
    refine V_s0 (pc := 18) dX9_wordIs_18 sX9_61 hi (J0_length (d := 1) hi (by omega)) (Nat.le_of_ble_eq_true rfl) (by omega) (Nat.le_of_ble_eq_true rfl) ?_
    refine V_icmp_eq (pc := 21) 26 dX9_wordIs_21 rfl (fun c21 => ?_) (fun c21 => ?_)
    · have h4 : tE S - tP S = q.2.2.2.length := (nI_eq (by omega) (by omega)).mp c21
      have ew : wrd S q.2.2.2 = wrdF (S 3) (tL S) (tP S) q.2.2.2 q.2.2.2.length 0 := by simp [wrd, c5, h4]
      rw [ew]
      refine V_iconst (pc := 26) (v := 0) dX9_wordIs_26 (by decide) ?_
      refine V_istore_n (pc := 27) (i := 2) dX9_wordIs_27 rfl (by decide) rfl ?_
      have loop : ∀ (m k : Nat), m + k = q.2.2.2.length → V G mX9_wordIs d 0 0 (xE (some (.int (b2i (wrdF (S 3) (tL S) (tP S) q.2.2.2 m k)))) (wH G b tbC S h0)) 28 [some (.ref (b + 2)), some (.ref (gK G i)), some (.int (nI k))] [] (wH G b tbC S h0) := by
        intro m
        induction m with
        | zero =>
          intro k hm
          refine V_iload_n (pc := 28) (i := 2) dX9_wordIs_28 rfl rfl ?_
          refine V_aload_n (pc := 29) (i := 1) dX9_wordIs_29 rfl rfl ?_
          refine V_s0 (pc := 30) dX9_wordIs_30 sX9_61 hi (J0_length (d := 1) hi (by omega)) (Nat.le_of_ble_eq_true rfl) (by omega) (Nat.le_of_ble_eq_true rfl) ?_
          refine V_icmp_ge (pc := 33) 62 dX9_wordIs_33 rfl (fun c => ?_) (fun c => absurd (by rw [show k = q.2.2.2.length by omega]; exact nI_le (by omega) (by omega)) c)
          refine V_iconst (pc := 62) (v := 1) dX9_wordIs_62 (by decide) ?_
          exact VE_zret (pc := 63) dX9_wordIs_63 rfl (Or.inr rfl) rfl rfl
        | succ m ih =>
          intro k hm
          rw [wrdF]
          refine V_iload_n (pc := 28) (i := 2) dX9_wordIs_28 rfl rfl ?_
          refine V_aload_n (pc := 29) (i := 1) dX9_wordIs_29 rfl rfl ?_
          refine V_s0 (pc := 30) dX9_wordIs_30 sX9_61 hi (J0_length (d := 1) hi (by omega)) (Nat.le_of_ble_eq_true rfl) (by omega) (Nat.le_of_ble_eq_true rfl) ?_
          refine V_icmp_ge (pc := 33) 62 dX9_wordIs_33 rfl (fun c => absurd c (nI_ge (by omega) (by omega))) (fun c => ?_)
          refine V_aload_n (pc := 36) (i := 0) dX9_wordIs_36 rfl rfl ?_
          refine V_aload_n (pc := 37) (i := 0) dX9_wordIs_37 rfl rfl ?_
          refine VW_getI (pc := 38) dX9_wordIs_38 fX9_28 (by first | assumption | rfl) rfl ?_
          rw [t3]
          refine V_iload_n (pc := 41) (i := 2) dX9_wordIs_41 rfl rfl ?_
          refine V_iadd (pc := 42) dX9_wordIs_42 ?_
          rw [nI_add]
          refine V_V1i (pc := 43) dX9_wordIs_43 cX9_43 (by first | assumption | rfl) (X9_byteAt (L := tL S) (d := 0) t1 t2 (by omega)) (Nat.le_of_ble_eq_true rfl) (by omega) (Nat.le_of_ble_eq_true rfl) ?_
          refine V_aload_n (pc := 46) (i := 1) dX9_wordIs_46 rfl rfl ?_
          refine V_iload_n (pc := 47) (i := 2) dX9_wordIs_47 rfl rfl ?_
          refine V_s1 (pc := 48) dX9_wordIs_48 sX9_64 hi (J0_charAt (d := 3) hi (by omega) (by omega)) (Nat.le_of_ble_eq_true rfl) (by omega) (Nat.le_of_ble_eq_true rfl) ?_
          refine V_icmp_eq (pc := 51) 56 dX9_wordIs_51 rfl (fun c51 => ?_) (fun c51 => ?_)
          · rw [if_pos c51]
            refine V_iinc (pc := 56) dX9_wordIs_56 (by decide) rfl rfl (iincN (n := 1) (by decide)) ?_
            refine V_goto (pc := 59) 28 dX9_wordIs_59 rfl ?_
            exact ih (k + 1) (by omega)
          · rw [if_neg c51]
            refine V_iconst (pc := 54) (v := 0) dX9_wordIs_54 (by decide) ?_
            exact VE_zret (pc := 55) dX9_wordIs_55 rfl (Or.inl rfl) rfl rfl
      exact loop _ 0 (by omega)
    · have h4 : ¬ tE S - tP S = q.2.2.2.length := fun z => c21 (by rw [z])
      refine V_iconst (pc := 24) (v := 0) dX9_wordIs_24 (by decide) ?_
      exact VE_zret (pc := 25) dX9_wordIs_25 rfl (Or.inl rfl) (by simp [b2i, wrd, h4]) rfl
/-- a text of n bytes begins -/
def strt (S : Nat → Nat → Int32) (n : Nat) : Nat → Nat → Int32 := adv (up2 (up2 S 2 1 (nI n)) 2 2 0)
theorem strt_TI {n : Nat} (h7 : n ≤ 700) : tL (up2 (up2 S 2 1 (nI n)) 2 2 0) = n ∧ tE (up2 (up2 S 2 1 (nI n)) 2 2 0) = 0 := by
  constructor
  · rw [tL, up2_col (by decide), up2_same, nI_clamp (by omega)]
  · rw [tE, up2_same]; rfl
theorem X9_start {n : Nat} (h7 : n ≤ 700) (hb : gB G ≤ b) (hd : 6 ≤ d) : VM G mX9_start d 0 0 [.ref (b + 2), .int (nI n)] (xE none (wH G b tbC (strt S n) h0)) (wH G b tbC S h0) := by
  obtain ⟨e1, e2⟩ := strt_TI (S := S) h7
  refine VM_start (ls := [some (.ref (b + 2)), some (.int (nI n))]) rfl ?_
  unfold strt adv
  rw [e1, e2]
  -- %m X9_start
  refine V_aload_n (pc := 0) (i := 0) dX9_start_0 rfl rfl ?_
  refine V_iload_n (pc := 1) (i := 1) dX9_start_1 rfl rfl ?_
  refine V_aload_n (pc := 2) (i := 0) dX9_start_2 rfl rfl ?_
  refine VW_getR (pc := 3) dX9_start_3 fX9_9 (by first | assumption | rfl) rfl ?_
  refine VW_alen (pc := 6) dX9_start_6 (by first | assumption | rfl) (by decide) rfl ?_
  refine V_min (pc := 7) dX9_start_7 cX9_34 w_minS w_mathI w_minC (by omega) (Nat.le_of_ble_eq_true rfl) ?_
  rw [show Int32.ofNat 700 = nI 700 from rfl, mnI_nI (by omega) (by omega), Nat.min_eq_left h7]
  refine VW_putI (pc := 10) dX9_start_10 fX9_15 ftX9 (fpI rfl rfl (tyX9_ok 1 (by decide))) (by first | assumption | rfl) rfl (by assumption) ?_
  refine V_aload_n (pc := 13) (i := 0) dX9_start_13 rfl rfl ?_
  refine V_iconst (pc := 14) (v := 0) dX9_start_14 (by decide) ?_
  refine VW_putI (pc := 15) dX9_start_15 fX9_19 ftX9 (fpI rfl rfl (tyX9_ok 2 (by decide))) (by first | assumption | rfl) rfl (by assumption) ?_
  refine V_aload_n (pc := 18) (i := 0) dX9_start_18 rfl rfl ?_
  refine V_V0v (pc := 19) dX9_start_19 cX9_40 (by first | assumption | rfl) (X9_advance (L := n) (p := 0) (d := 5) (by rw [up2_col (by decide), up2_same]) h7 (by rw [up2_same]; rfl) (Nat.zero_le _) hb (by omega)) (Nat.le_of_ble_eq_true rfl) (by omega) (Nat.le_of_ble_eq_true rfl) ?_
  exact VE_vret (pc := 22) dX9_start_22 rfl rfl
theorem X11_feed_no {z : Nat} {x1 x2 x3 x4 x5 : Int32} (hz : S 2 4 = nI z) (h7 : z ≤ 700) (h8 : 680 < z) : VM G mX11_feed d 0 0 [.ref (b + 0), .int x1, .int x2, .int x3, .int x4, .int x5] (xE (some (.int (-1))) (wH G b tbC S h0)) (wH G b tbC S h0) := by
  refine VM_start (ls := [some (.ref (b + 0)), some (.int x1), some (.int x2), some (.int x3), some (.int x4), some (.int x5), none]) rfl ?_
  -- %m X11_feed
  refine V_aload_n (pc := 0) (i := 0) dX11_feed_0 rfl rfl ?_
  refine VW_getR (pc := 1) dX11_feed_1 fX11_10 (by first | assumption | rfl) rfl ?_
  refine VW_getR (pc := 4) dX11_feed_4 fX11_81 (by first | assumption | rfl) rfl ?_
  refine V_astore (pc := 7) dX11_feed_7 (by decide) rfl ?_
  refine V_aload (pc := 9) dX11_feed_9 rfl ?_
  refine VW_getI (pc := 11) dX11_feed_11 fX11_85 (by first | assumption | rfl) rfl ?_
  rw [hz]
  refine V_bipush (pc := 14) (v := 20) dX11_feed_14 (by decide) ?_
  refine V_iadd (pc := 16) dX11_feed_16 ?_
  refine V_sipush (pc := 17) (v := 700) dX11_feed_17 (by decide) ?_
  refine V_icmp_le (pc := 20) 25 dX11_feed_20 rfl (fun c => absurd c (show ¬ nI z + nI 20 ≤ nI 700 by rw [nI_add]; exact nI_ge (by omega) (by omega))) (fun c => ?_)
  refine V_iconst (pc := 23) (v := -1) dX11_feed_23 (by decide) ?_
  exact VE_iret (pc := 24) dX11_feed_24 rfl rfl rfl
theorem X11_feed_ok {z : Nat} {x1 x2 x3 x4 x5 : Int32} (hz : S 2 4 = nI z) (h7 : z ≤ 680) (hb : gB G ≤ b) (hd : 1 ≤ d) : VM G mX11_feed d 0 0 [.ref (b + 0), .int x1, .int x2, .int x3, .int x4, .int x5] (xE (some (.int (nI (z + 20)))) (wH G b tbC (put4 (put4 (put4 (put4 (put4 S z x1) (z + 4) x2) (z + 8) x3) (z + 12) x4) (z + 16) x5) h0)) (wH G b tbC S h0) := by
  refine VM_start (ls := [some (.ref (b + 0)), some (.int x1), some (.int x2), some (.int x3), some (.int x4), some (.int x5), none]) rfl ?_
  -- %m X11_feed
  refine V_aload_n (pc := 0) (i := 0) dX11_feed_0 rfl rfl ?_
  refine VW_getR (pc := 1) dX11_feed_1 fX11_10 (by first | assumption | rfl) rfl ?_
  refine VW_getR (pc := 4) dX11_feed_4 fX11_81 (by first | assumption | rfl) rfl ?_
  refine V_astore (pc := 7) dX11_feed_7 (by decide) rfl ?_
  refine V_aload (pc := 9) dX11_feed_9 rfl ?_
  refine VW_getI (pc := 11) dX11_feed_11 fX11_85 (by first | assumption | rfl) rfl ?_
  rw [hz]
  refine V_bipush (pc := 14) (v := 20) dX11_feed_14 (by decide) ?_
  refine V_iadd (pc := 16) dX11_feed_16 ?_
  refine V_sipush (pc := 17) (v := 700) dX11_feed_17 (by decide) ?_
  refine V_icmp_le (pc := 20) 25 dX11_feed_20 rfl (fun c => ?_) (fun c => absurd (show nI z + nI 20 ≤ nI 700 by rw [nI_add]; exact nI_le (by omega) (by omega)) c)
  refine V_aload (pc := 25) dX11_feed_25 rfl ?_
  refine V_iload_n (pc := 27) (i := 1) dX11_feed_27 rfl rfl ?_
  refine V_V1v (pc := 28) dX11_feed_28 cX11_90 (by first | assumption | rfl) (X9_put (z := z) (d := 0) hz (by omega) hb _) (Nat.le_of_ble_eq_true rfl) (by omega) (Nat.le_of_ble_eq_true rfl) ?_
  refine V_aload (pc := 31) dX11_feed_31 rfl ?_
  refine V_iload_n (pc := 33) (i := 2) dX11_feed_33 rfl rfl ?_
  refine V_V1v (pc := 34) dX11_feed_34 cX11_90 (by first | assumption | rfl) (X9_put (z := z + 4) (d := 0) put4_4 (by omega) hb _) (Nat.le_of_ble_eq_true rfl) (by omega) (Nat.le_of_ble_eq_true rfl) ?_
  refine V_aload (pc := 37) dX11_feed_37 rfl ?_
  refine V_iload_n (pc := 39) (i := 3) dX11_feed_39 rfl rfl ?_
  refine V_V1v (pc := 40) dX11_feed_40 cX11_90 (by first | assumption | rfl) (X9_put (z := z + 8) (d := 0) put4_4 (by omega) hb _) (Nat.le_of_ble_eq_true rfl) (by omega) (Nat.le_of_ble_eq_true rfl) ?_
  refine V_aload (pc := 43) dX11_feed_43 rfl ?_
  refine V_iload (pc := 45) dX11_feed_45 rfl ?_
  refine V_V1v (pc := 47) dX11_feed_47 cX11_90 (by first | assumption | rfl) (X9_put (z := z + 12) (d := 0) put4_4 (by omega) hb _) (Nat.le_of_ble_eq_true rfl) (by omega) (Nat.le_of_ble_eq_true rfl) ?_
  refine V_aload (pc := 50) dX11_feed_50 rfl ?_
  refine V_iload (pc := 52) dX11_feed_52 rfl ?_
  refine V_V1v (pc := 54) dX11_feed_54 cX11_90 (by first | assumption | rfl) (X9_put (z := z + 16) (d := 0) put4_4 (by omega) hb _) (Nat.le_of_ble_eq_true rfl) (by omega) (Nat.le_of_ble_eq_true rfl) ?_
  refine V_aload (pc := 57) dX11_feed_57 rfl ?_
  refine VW_getI (pc := 59) dX11_feed_59 fX11_85 (by first | assumption | rfl) rfl ?_
  rw [put4_4]
  exact VE_iret (pc := 62) dX11_feed_62 rfl rfl rfl
end Tp2
