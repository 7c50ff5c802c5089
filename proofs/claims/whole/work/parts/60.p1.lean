/-! ===== the model's reader: bytes, TOKENS ===== -/
section P1
variable {G : xG} {d : Nat} {b : Nat} {S T U : Nat → Nat → Int32} {h0 h : xH}
/-- the bytes are bytes -/
def BO (T : Nat → Nat → Int32) : Prop := ∀ k, k < 700 → ∃ c, c < 256 ∧ T 15 k = nI c
theorem bya_M {B : Nat → Int32} {L k : Nat} (h : k < L) (hc : ∃ c, c < 256 ∧ B k = nI c) : bya B L k = B k := by
  obtain ⟨c, h1, h2⟩ := hc
  unfold bya
  rw [if_pos h, h2, pk_andN (by omega) 8 (by decide), Nat.mod_eq_of_lt (by omega)]
theorem X12_byteAt {L k : Nat} (bo : BO T) (hL : T 0 18 = nI L) (h7 : L ≤ 700) (hk : k < 2 ^ 31) : VM G mX12_byteAt d 0 0 [.ref (b + 0), .int (nI k)] (xE (some (.int (bya (T 15) L k))) (wH G b tbM T h0)) (wH G b tbM T h0) := by
  refine VM_start (ls := [some (.ref (b + 0)), some (.int (nI k))]) rfl ?_
  -- %m X12_byteAt
  refine V_iload_n (pc := 0) (i := 1) dX12_byteAt_0 rfl rfl ?_
  refine V_aload_n (pc := 1) (i := 0) dX12_byteAt_1 rfl rfl ?_
  refine VW_getI (pc := 2) dX12_byteAt_2 fX12_153 (by first | assumption | rfl) rfl ?_
  rw [hL]
  refine V_icmp_ge (pc := 5) 17 dX12_byteAt_5 rfl (fun c5 => ?_) (fun c5 => ?_)
  · have q : ¬ k < L := fun q => nI_ge q (by omega) c5
    refine V_iconst (pc := 17) (v := -1) dX12_byteAt_17 (by decide) ?_
    exact VE_iret (pc := 18) dX12_byteAt_18 rfl (by unfold bya; rw [if_neg q]) rfl
  · have q : k < L := Nat.not_le.mp (fun q => c5 (nI_le q hk))
    rw [bya_M q (bo k (by omega))]
    refine V_aload_n (pc := 8) (i := 0) dX12_byteAt_8 rfl rfl ?_
    refine VW_getR (pc := 9) dX12_byteAt_9 fX12_73 (by first | assumption | rfl) rfl ?_
    refine V_iload_n (pc := 12) (i := 1) dX12_byteAt_12 rfl rfl ?_
    refine VW_ialdN (pc := 13) dX12_byteAt_13 (by first | assumption | rfl) (j := k) rfl (by omega) (by first | decide | omega) ?_
    refine V_goto (pc := 14) 18 dX12_byteAt_14 rfl ?_
    exact VE_iret (pc := 18) dX12_byteAt_18 rfl rfl rfl
def isLt (x : Int32) : Bool := !decide (x < 97) && !decide (122 < x)
def isDg (x : Int32) : Bool := !decide (x < 48) && !decide (57 < x)
theorem X12_isLetter (x : Int32) : VM G mX12_isLetter d 0 0 [.int x] (xE (some (.int (b2i (isLt x)))) h) h := by
  refine VM_start (ls := [some (.int x)]) rfl ?_
  -- %m X12_isLetter
  refine V_iload_n (pc := 0) (i := 0) dX12_isLetter_0 rfl rfl ?_
  refine V_bipush (pc := 1) (v := 97) dX12_isLetter_1 (by decide) ?_
  refine V_icmp_lt (pc := 3) 16 dX12_isLetter_3 rfl (fun c3 => ?_) (fun c3 => ?_)
  · refine V_iconst (pc := 16) (v := 0) dX12_isLetter_16 (by decide) ?_
    exact VE_zret (pc := 17) dX12_isLetter_17 rfl (by first | exact Or.inl rfl | exact Or.inr rfl) (by simp [b2i, isLt, *]) rfl
  · refine V_iload_n (pc := 6) (i := 0) dX12_isLetter_6 rfl rfl ?_
    refine V_bipush (pc := 7) (v := 122) dX12_isLetter_7 (by decide) ?_
    refine V_icmp_gt (pc := 9) 16 dX12_isLetter_9 rfl (fun c9 => ?_) (fun c9 => ?_)
    · refine V_iconst (pc := 16) (v := 0) dX12_isLetter_16 (by decide) ?_
      exact VE_zret (pc := 17) dX12_isLetter_17 rfl (by first | exact Or.inl rfl | exact Or.inr rfl) (by simp [b2i, isLt, *]) rfl
    · refine V_iconst (pc := 12) (v := 1) dX12_isLetter_12 (by decide) ?_
      refine V_goto (pc := 13) 17 dX12_isLetter_13 rfl ?_
      exact VE_zret (pc := 17) dX12_isLetter_17 rfl (by first | exact Or.inl rfl | exact Or.inr rfl) (by simp [b2i, isLt, *]) rfl
theorem X12_isDigit (x : Int32) : VM G mX12_isDigit d 0 0 [.int x] (xE (some (.int (b2i (isDg x)))) h) h := by
  refine VM_start (ls := [some (.int x)]) rfl ?_
  -- %m X12_isDigit
  refine V_iload_n (pc := 0) (i := 0) dX12_isDigit_0 rfl rfl ?_
  refine V_bipush (pc := 1) (v := 48) dX12_isDigit_1 (by decide) ?_
  refine V_icmp_lt (pc := 3) 16 dX12_isDigit_3 rfl (fun c3 => ?_) (fun c3 => ?_)
  · refine V_iconst (pc := 16) (v := 0) dX12_isDigit_16 (by decide) ?_
    exact VE_zret (pc := 17) dX12_isDigit_17 rfl (by first | exact Or.inl rfl | exact Or.inr rfl) (by simp [b2i, isDg, *]) rfl
  · refine V_iload_n (pc := 6) (i := 0) dX12_isDigit_6 rfl rfl ?_
    refine V_bipush (pc := 7) (v := 57) dX12_isDigit_7 (by decide) ?_
    refine V_icmp_gt (pc := 9) 16 dX12_isDigit_9 rfl (fun c9 => ?_) (fun c9 => ?_)
    · refine V_iconst (pc := 16) (v := 0) dX12_isDigit_16 (by decide) ?_
      exact VE_zret (pc := 17) dX12_isDigit_17 rfl (by first | exact Or.inl rfl | exact Or.inr rfl) (by simp [b2i, isDg, *]) rfl
    · refine V_iconst (pc := 12) (v := 1) dX12_isDigit_12 (by decide) ?_
      refine V_goto (pc := 13) 17 dX12_isDigit_13 rfl ?_
      exact VE_zret (pc := 17) dX12_isDigit_17 rfl (by first | exact Or.inl rfl | exact Or.inr rfl) (by simp [b2i, isDg, *]) rfl
theorem X12_isMark (x : Int32) : VM G mX12_isMark d 0 0 [.int x] (xE (some (.int (b2i (mrk x)))) h) h := by
  refine VM_start (ls := [some (.int x)]) rfl ?_
  -- %m X12_isMark
  refine V_iload_n (pc := 0) (i := 0) dX12_isMark_0 rfl rfl ?_
  refine V_bipush (pc := 1) (v := 59) dX12_isMark_1 (by decide) ?_
  refine V_icmp_eq (pc := 3) 54 dX12_isMark_3 rfl (fun c3 => ?_) (fun c3 => ?_)
  · refine V_iconst (pc := 54) (v := 1) dX12_isMark_54 (by decide) ?_
    refine V_goto (pc := 55) 59 dX12_isMark_55 rfl ?_
    exact VE_zret (pc := 59) dX12_isMark_59 rfl (by first | exact Or.inl rfl | exact Or.inr rfl) (by simp [b2i, mrk, *]) rfl
  · refine V_iload_n (pc := 6) (i := 0) dX12_isMark_6 rfl rfl ?_
    refine V_bipush (pc := 7) (v := 40) dX12_isMark_7 (by decide) ?_
    refine V_icmp_eq (pc := 9) 54 dX12_isMark_9 rfl (fun c9 => ?_) (fun c9 => ?_)
    · refine V_iconst (pc := 54) (v := 1) dX12_isMark_54 (by decide) ?_
      refine V_goto (pc := 55) 59 dX12_isMark_55 rfl ?_
      exact VE_zret (pc := 59) dX12_isMark_59 rfl (by first | exact Or.inl rfl | exact Or.inr rfl) (by simp [b2i, mrk, *]) rfl
    · refine V_iload_n (pc := 12) (i := 0) dX12_isMark_12 rfl rfl ?_
      refine V_bipush (pc := 13) (v := 41) dX12_isMark_13 (by decide) ?_
      refine V_icmp_eq (pc := 15) 54 dX12_isMark_15 rfl (fun c15 => ?_) (fun c15 => ?_)
      · refine V_iconst (pc := 54) (v := 1) dX12_isMark_54 (by decide) ?_
        refine V_goto (pc := 55) 59 dX12_isMark_55 rfl ?_
        exact VE_zret (pc := 59) dX12_isMark_59 rfl (by first | exact Or.inl rfl | exact Or.inr rfl) (by simp [b2i, mrk, *]) rfl
      · refine V_iload_n (pc := 18) (i := 0) dX12_isMark_18 rfl rfl ?_
        refine V_bipush (pc := 19) (v := 43) dX12_isMark_19 (by decide) ?_
        refine V_icmp_eq (pc := 21) 54 dX12_isMark_21 rfl (fun c21 => ?_) (fun c21 => ?_)
        · refine V_iconst (pc := 54) (v := 1) dX12_isMark_54 (by decide) ?_
          refine V_goto (pc := 55) 59 dX12_isMark_55 rfl ?_
          exact VE_zret (pc := 59) dX12_isMark_59 rfl (by first | exact Or.inl rfl | exact Or.inr rfl) (by simp [b2i, mrk, *]) rfl
        · refine V_iload_n (pc := 24) (i := 0) dX12_isMark_24 rfl rfl ?_
          refine V_bipush (pc := 25) (v := 45) dX12_isMark_25 (by decide) ?_
          refine V_icmp_eq (pc := 27) 54 dX12_isMark_27 rfl (fun c27 => ?_) (fun c27 => ?_)
          · refine V_iconst (pc := 54) (v := 1) dX12_isMark_54 (by decide) ?_
            refine V_goto (pc := 55) 59 dX12_isMark_55 rfl ?_
            exact VE_zret (pc := 59) dX12_isMark_59 rfl (by first | exact Or.inl rfl | exact Or.inr rfl) (by simp [b2i, mrk, *]) rfl
          · refine V_iload_n (pc := 30) (i := 0) dX12_isMark_30 rfl rfl ?_
            refine V_bipush (pc := 31) (v := 42) dX12_isMark_31 (by decide) ?_
            refine V_icmp_eq (pc := 33) 54 dX12_isMark_33 rfl (fun c33 => ?_) (fun c33 => ?_)
            · refine V_iconst (pc := 54) (v := 1) dX12_isMark_54 (by decide) ?_
              refine V_goto (pc := 55) 59 dX12_isMark_55 rfl ?_
              exact VE_zret (pc := 59) dX12_isMark_59 rfl (by first | exact Or.inl rfl | exact Or.inr rfl) (by simp [b2i, mrk, *]) rfl
            · refine V_iload_n (pc := 36) (i := 0) dX12_isMark_36 rfl rfl ?_
              refine V_bipush (pc := 37) (v := 47) dX12_isMark_37 (by decide) ?_
              refine V_icmp_eq (pc := 39) 54 dX12_isMark_39 rfl (fun c39 => ?_) (fun c39 => ?_)
              · refine V_iconst (pc := 54) (v := 1) dX12_isMark_54 (by decide) ?_
                refine V_goto (pc := 55) 59 dX12_isMark_55 rfl ?_
                exact VE_zret (pc := 59) dX12_isMark_59 rfl (by first | exact Or.inl rfl | exact Or.inr rfl) (by simp [b2i, mrk, *]) rfl
              · refine V_iload_n (pc := 42) (i := 0) dX12_isMark_42 rfl rfl ?_
                refine V_bipush (pc := 43) (v := 60) dX12_isMark_43 (by decide) ?_
                refine V_icmp_eq (pc := 45) 54 dX12_isMark_45 rfl (fun c45 => ?_) (fun c45 => ?_)
                · refine V_iconst (pc := 54) (v := 1) dX12_isMark_54 (by decide) ?_
                  refine V_goto (pc := 55) 59 dX12_isMark_55 rfl ?_
                  exact VE_zret (pc := 59) dX12_isMark_59 rfl (by first | exact Or.inl rfl | exact Or.inr rfl) (by simp [b2i, mrk, *]) rfl
                · refine V_iload_n (pc := 48) (i := 0) dX12_isMark_48 rfl rfl ?_
                  refine V_bipush (pc := 49) (v := 61) dX12_isMark_49 (by decide) ?_
                  refine V_icmp_ne (pc := 51) 58 dX12_isMark_51 rfl (fun c51 => ?_) (fun c51 => ?_)
                  · refine V_iconst (pc := 58) (v := 0) dX12_isMark_58 (by decide) ?_
                    exact VE_zret (pc := 59) dX12_isMark_59 rfl (by first | exact Or.inl rfl | exact Or.inr rfl) (by simp [b2i, mrk, *]) rfl
                  · refine V_iconst (pc := 54) (v := 1) dX12_isMark_54 (by decide) ?_
                    refine V_goto (pc := 55) 59 dX12_isMark_55 rfl ?_
                    exact VE_zret (pc := 59) dX12_isMark_59 rfl (by first | exact Or.inl rfl | exact Or.inr rfl) (by simp [b2i, mrk, *]) rfl
theorem lt97 {x : Int32} : isLt x = true ↔ 97 ≤ x ∧ x ≤ 122 := by
  unfold isLt
  simp only [Bool.and_eq_true, Bool.not_eq_true', decide_eq_false_iff_not, Int32.not_lt]
theorem dg48 {x : Int32} : isDg x = true ↔ 48 ≤ x ∧ x ≤ 57 := by
  unfold isDg
  simp only [Bool.and_eq_true, Bool.not_eq_true', decide_eq_false_iff_not, Int32.not_lt]
theorem knd_1 {x : Int32} : knd x = 1 ↔ isLt x = true := by
  rw [lt97]
  unfold knd
  by_cases e : x = -1
  · subst e; decide
  · rw [if_neg e]
    by_cases q : 97 ≤ x ∧ x ≤ 122
    · rw [if_pos q]; exact ⟨fun _ => q, fun _ => rfl⟩
    · rw [if_neg q]
      refine ⟨fun z => ?_, fun z => absurd z q⟩
      split at z
      · exact absurd z (by decide)
      · split at z <;> exact absurd z (by decide)
theorem knd_2 {x : Int32} : knd x = 2 ↔ isDg x = true := by
  rw [dg48]
  unfold knd
  by_cases e : x = -1
  · subst e; decide
  · rw [if_neg e]
    by_cases q : 97 ≤ x ∧ x ≤ 122
    · rw [if_pos q]
      refine ⟨fun z => absurd z (by decide), fun z => ?_⟩
      have a1 := Int32.le_iff_toInt_le.mp q.1
      have a2 := Int32.le_iff_toInt_le.mp z.2
      rw [show (97 : Int32).toInt = 97 by decide] at a1
      rw [show (57 : Int32).toInt = 57 by decide] at a2
      omega
    · rw [if_neg q]
      by_cases q2 : 48 ≤ x ∧ x ≤ 57
      · rw [if_pos q2]; exact ⟨fun _ => q2, fun _ => rfl⟩
      · rw [if_neg q2]
        refine ⟨fun z => ?_, fun z => absurd z q2⟩
        split at z <;> exact absurd z (by decide)
theorem knd_0 {x : Int32} : knd x = 0 ↔ x = -1 := by
  unfold knd
  by_cases e : x = -1
  · rw [if_pos e]; exact ⟨fun _ => e, fun _ => rfl⟩
  · rw [if_neg e]
    refine ⟨fun z => ?_, fun z => absurd z e⟩
    split at z
    · exact absurd z (by decide)
    · split at z
      · exact absurd z (by decide)
      · split at z <;> exact absurd z (by decide)
theorem knd_s {x : Int32} (e : ¬ x = -1) (h1 : isLt x = false) (h2 : isDg x = false) : knd x = if mrk x then 3 else 4 := by
  unfold knd
  rw [if_neg e, if_neg (fun q => by rw [lt97.mpr q] at h1; cases h1), if_neg (fun q => by rw [dg48.mpr q] at h2; cases h2)]
/-- the model's number: m digits from i on -/
def mnF (B : Nat → Int32) (L : Nat) : Nat → Nat → Int32 → Int32
  | 0, _, x => x
  | m + 1, i, x => mnF B L m (i + 1) (mnI 100000 (10 * x + bya B L i - 48))
theorem runB_in {B : Nat → Int32} {L : Nat} {k : Int32} (hk : knd (-1) ≠ k) : ∀ (m p : Nat), m + p = L → ∀ j, p ≤ j → j < runB B L k m p → knd (bya B L j) = k := by
  intro m
  induction m with
  | zero => intro p hm j h1 h2; rw [runB] at h2; omega
  | succ m ih =>
    intro p hm j h1 h2
    rw [runB] at h2
    split at h2
    · next q =>
      by_cases e : j = p
      · subst e; exact q
      · exact ih (p + 1) (by omega) j (by omega) h2
    · omega
/-- the row 0 behind a step -/
def stR (T : Nat → Nat → Int32) (L p : Nat) : Nat → Int32 := upd (upd (upd (upd (upd (T 0) 17 (nI (tkE (T 15) L p))) 21 (nI (tkP (T 15) L p))) 20 (if tkK (T 15) L p = 2 then mnF (T 15) L (tkE (T 15) L p - tkP (T 15) L p) (tkP (T 15) L p) 0 else T 0 20)) 19 (tkK (T 15) L p)) 22 (nI (tkE (T 15) L p))
def mStep (T : Nat → Nat → Int32) (L p : Nat) : Nat → Nat → Int32 := upR T 0 (stR T L p)
theorem updU {f : Nat → Int32} {j : Nat} {x y : Int32} : upd (upd f j x) j y = upd f j y := by
  funext q
  by_cases e : q = j
  · subst e; rw [updS, updS]
  · rw [updN e, updN e, updN e]
theorem upd_self {f : Nat → Int32} {j : Nat} : upd f j (f j) = f := by
  funext q
  by_cases e : q = j
  · subst e; rw [updS]
  · rw [updN e]
theorem updC {f : Nat → Int32} {j k : Nat} {x y : Int32} (h : j ≠ k) : upd (upd f j x) k y = upd (upd f k y) j x := by
  funext q
  by_cases e : q = j
  · subst e; rw [updN (by omega), updS, updS]
  · by_cases e2 : q = k
    · subst e2; rw [updS, updN e, updS]
    · rw [updN e2, updN e, updN e, updN e2]
theorem tkE_1 {B : Nat → Int32} {L p : Nat} (hp : p ≤ L) (hk : tkK B L p = 1 ∨ tkK B L p = 2) : tkP B L p < L ∧ runB B L (tkK B L p) (L - tkP B L p) (tkP B L p) = tkE B L p := by
  have h1 := tkP_le (B := B) hp
  have hlt : tkP B L p < L := by
    rcases Nat.lt_or_ge (tkP B L p) L with q | q
    · exact q
    · exfalso
      unfold tkK bya at hk
      rw [if_neg (by omega)] at hk
      revert hk; decide
  refine ⟨hlt, ?_⟩
  rw [tkE, if_pos hk, tkN, show min (tkP B L p + 1) L = tkP B L p + 1 by omega]
  conv => lhs; rw [show L - tkP B L p = (L - (tkP B L p + 1)) + 1 by omega, runB]
  rw [if_pos (show knd (bya B L (tkP B L p)) = tkK B L p from rfl)]
theorem X12_stepOn {L p : Nat} (bo : BO T) (hL : T 0 18 = nI L) (h7 : L ≤ 700) (hp : T 0 17 = nI p) (hpL : p ≤ L) (hb : gB G ≤ b) (hd : 1 ≤ d) : VM G mX12_stepOn d 0 0 [.ref (b + 0)] (xE none (wH G b tbM (mStep T L p) h0)) (wH G b tbM T h0) := by
  have l1 := tkP_le (B := T 15) hpL
  have l2 := tkE_le (B := T 15) hpL
  have boF : ∀ f : Nat → Int32, BO (upR T 0 f) := fun f => by unfold BO; rw [upR_row (by decide)]; exact bo
  have e15 : ∀ f : Nat → Int32, upR T 0 f 15 = T 15 := fun f => upR_row (by decide)
  have bA : ∀ (f : Nat → Int32) (q : Nat), f 18 = nI L → q ≤ 700 → VM G mX12_byteAt 0 0 0 [.ref (b + 0), .int (nI q)] (xE (some (.int (bya (T 15) L q))) (wH G b tbM (upR T 0 f) h0)) (wH G b tbM (upR T 0 f) h0) := fun f q hf hq => by
    have k := X12_byteAt (G := G) (d := 0) (b := b) (h0 := h0) (T := upR T 0 f) (L := L) (k := q) (boF f) (by rw [upR_same]; exact hf) h7 (by omega)
    rw [e15] at k
    exact k
  refine VM_start (ls := [some (.ref (b + 0)), none]) rfl ?_
  unfold mStep
  -- %m X12_stepOn
  -- blanks
  have sk : ∀ (m q : Nat) (Q : xR → xH → Prop), m + q = L → V G mX12_stepOn d 0 0 Q 39 [some (.ref (b + 0)), none] [] (wH G b tbM (upR T 0 (upd (T 0) 17 (nI (skB (T 15) L m q)))) h0) → V G mX12_stepOn d 0 0 Q 0 [some (.ref (b + 0)), none] [] (wH G b tbM (upR T 0 (upd (T 0) 17 (nI q))) h0) := by
    intro m
    have f18 : ∀ q : Nat, upd (T 0) 17 (nI q) 18 = nI L := fun q => by rw [updN (by decide)]; exact hL
    induction m with
    | zero =>
      intro q Q hm k
      have eb : bya (T 15) L q = -1 := by unfold bya; rw [if_neg (by omega)]
      refine V_aload_n (pc := 0) (i := 0) dX12_stepOn_0 rfl rfl ?_
      refine V_aload_n (pc := 1) (i := 0) dX12_stepOn_1 rfl rfl ?_
      refine VW_getI (pc := 2) dX12_stepOn_2 fX12_156 (by first | assumption | rfl) rfl ?_
      rw [upR_same, updS]
      refine V_V1i (pc := 5) dX12_stepOn_5 cX12_159 (by first | assumption | rfl) (bA _ q (f18 q) (by omega)) (Nat.le_of_ble_eq_true rfl) (by omega) (Nat.le_of_ble_eq_true rfl) ?_
      refine V_bipush (pc := 8) (v := 32) dX12_stepOn_8 (by decide) ?_
      rw [eb]
      refine V_icmp_eq (pc := 10) 26 dX12_stepOn_10 rfl (fun c10 => ?_) (fun c10 => ?_)
      · exact absurd c10 (by decide)
      · refine V_aload_n (pc := 13) (i := 0) dX12_stepOn_13 rfl rfl ?_
        refine V_aload_n (pc := 14) (i := 0) dX12_stepOn_14 rfl rfl ?_
        refine VW_getI (pc := 15) dX12_stepOn_15 fX12_156 (by first | assumption | rfl) rfl ?_
        rw [upR_same, updS]
        refine V_V1i (pc := 18) dX12_stepOn_18 cX12_159 (by first | assumption | rfl) (bA _ q (f18 q) (by omega)) (Nat.le_of_ble_eq_true rfl) (by omega) (Nat.le_of_ble_eq_true rfl) ?_
        refine V_bipush (pc := 21) (v := 10) dX12_stepOn_21 (by decide) ?_
        rw [eb]
        refine V_icmp_ne (pc := 23) 39 dX12_stepOn_23 rfl (fun c23 => ?_) (fun c23 => ?_)
        · exact k
        · exact absurd c23 (by decide)
    | succ m ih =>
      intro q Q hm k
      rw [skB] at k
      have go : V G mX12_stepOn d 0 0 Q 39 [some (.ref (b + 0)), none] [] (wH G b tbM (upR T 0 (upd (T 0) 17 (nI (skB (T 15) L m (q + 1))))) h0) → V G mX12_stepOn d 0 0 Q 26 [some (.ref (b + 0)), none] [] (wH G b tbM (upR T 0 (upd (T 0) 17 (nI q))) h0) := by
        intro k
        refine V_aload_n (pc := 26) (i := 0) dX12_stepOn_26 rfl rfl ?_
        refine V_dup (pc := 27) dX12_stepOn_27 rfl ?_
        refine VW_getI (pc := 28) dX12_stepOn_28 fX12_156 (by first | assumption | rfl) rfl ?_
        rw [upR_same, updS]
        refine V_iconst (pc := 31) (v := 1) dX12_stepOn_31 (by decide) ?_
        refine V_iadd (pc := 32) dX12_stepOn_32 ?_
        rw [nI_1]
        refine VW_putI (pc := 33) dX12_stepOn_33 fX12_156 ftX12 (fpI rfl rfl (tyX12_ok 17 (by decide))) (by first | assumption | rfl) rfl (by assumption) ?_
        rw [up2_upR, updU]
        refine V_goto (pc := 36) 0 dX12_stepOn_36 rfl ?_
        exact ih (q + 1) Q (by omega) k
      refine V_aload_n (pc := 0) (i := 0) dX12_stepOn_0 rfl rfl ?_
      refine V_aload_n (pc := 1) (i := 0) dX12_stepOn_1 rfl rfl ?_
      refine VW_getI (pc := 2) dX12_stepOn_2 fX12_156 (by first | assumption | rfl) rfl ?_
      rw [upR_same, updS]
      refine V_V1i (pc := 5) dX12_stepOn_5 cX12_159 (by first | assumption | rfl) (bA _ q (f18 q) (by omega)) (Nat.le_of_ble_eq_true rfl) (by omega) (Nat.le_of_ble_eq_true rfl) ?_
      refine V_bipush (pc := 8) (v := 32) dX12_stepOn_8 (by decide) ?_
      refine V_icmp_eq (pc := 10) 26 dX12_stepOn_10 rfl (fun c10 => ?_) (fun c10 => ?_)
      · rw [if_pos (by rw [c10]; decide)] at k
        exact go k
      · refine V_aload_n (pc := 13) (i := 0) dX12_stepOn_13 rfl rfl ?_
        refine V_aload_n (pc := 14) (i := 0) dX12_stepOn_14 rfl rfl ?_
        refine VW_getI (pc := 15) dX12_stepOn_15 fX12_156 (by first | assumption | rfl) rfl ?_
        rw [upR_same, updS]
        refine V_V1i (pc := 18) dX12_stepOn_18 cX12_159 (by first | assumption | rfl) (bA _ q (f18 q) (by omega)) (Nat.le_of_ble_eq_true rfl) (by omega) (Nat.le_of_ble_eq_true rfl) ?_
        refine V_bipush (pc := 21) (v := 10) dX12_stepOn_21 (by decide) ?_
        refine V_icmp_ne (pc := 23) 39 dX12_stepOn_23 rfl (fun c23 => ?_) (fun c23 => ?_)
        · rw [if_neg (by unfold blk; rw [decide_eq_false c10, decide_eq_false c23]; decide)] at k
          exact k
        · rw [if_pos (by rw [c23]; decide)] at k
          exact go k
  rw [show wH G b tbM T h0 = wH G b tbM (upR T 0 (upd (T 0) 17 (nI p))) h0 by rw [← hp, upd_self, upR_self]]
  refine sk (L - p) p _ (by omega) ?_
  show V G mX12_stepOn d 0 0 _ 39 _ _ (wH G b tbM (upR T 0 (upd (T 0) 17 (nI (tkP (T 15) L p)))) h0)
  unfold stR
  have hK : tkK (T 15) L p = knd (bya (T 15) L (tkP (T 15) L p)) := rfl
  have hE1 := tkE_1 (B := T 15) hpL
  have hEn : ¬ (tkK (T 15) L p = 1 ∨ tkK (T 15) L p = 2) → tkE (T 15) L p = min (tkP (T 15) L p + 1) L := fun q => by rw [tkE, if_neg q]; rfl
  generalize tkE (T 15) L p = E at l2 hE1 hEn ⊢
  generalize tkK (T 15) L p = K at hK hE1 hEn ⊢
  generalize tkP (T 15) L p = P at l1 l2 hK hE1 hEn ⊢
  refine V_aload_n (pc := 39) (i := 0) dX12_stepOn_39 rfl rfl ?_
  refine V_aload_n (pc := 40) (i := 0) dX12_stepOn_40 rfl rfl ?_
  refine VW_getI (pc := 41) dX12_stepOn_41 fX12_156 (by first | assumption | rfl) rfl ?_
  rw [upR_same, updS]
  refine VW_putI (pc := 44) dX12_stepOn_44 fX12_163 ftX12 (fpI rfl rfl (tyX12_ok 21 (by decide))) (by first | assumption | rfl) rfl (by assumption) ?_
  rw [up2_upR]
  have f18 : ∀ (q : Nat) (g : Nat → Int32), g 18 = nI L → upd g 17 (nI q) 18 = nI L := fun q g hg => by rw [updN (by decide)]; exact hg
  have g18 : upd (upd (T 0) 17 (nI P)) 21 (nI P) 18 = nI L := by rw [updN (by decide), updN (by decide)]; exact hL
  refine V_aload_n (pc := 47) (i := 0) dX12_stepOn_47 rfl rfl ?_
  refine V_aload_n (pc := 48) (i := 0) dX12_stepOn_48 rfl rfl ?_
  refine VW_getI (pc := 49) dX12_stepOn_49 fX12_156 (by first | assumption | rfl) rfl ?_
  rw [upR_same, updN (by decide), updS]
  refine V_V1i (pc := 52) dX12_stepOn_52 cX12_159 (by first | assumption | rfl) (bA _ P g18 (by omega)) (Nat.le_of_ble_eq_true rfl) (by omega) (Nat.le_of_ble_eq_true rfl) ?_
  refine V_istore_n (pc := 55) (i := 1) dX12_stepOn_55 rfl (by decide) rfl ?_
  refine V_iload_n (pc := 56) (i := 1) dX12_stepOn_56 rfl rfl ?_
  refine V_iconst (pc := 57) (v := -1) dX12_stepOn_57 (by decide) ?_
  -- the end of a walk
  have fin : ∀ (g : Nat → Int32) (z : Int32), g 17 = nI E → upd g 22 (nI E) = upd (upd (upd (upd (upd (T 0) 17 (nI E)) 21 (nI P)) 20 (if K = 2 then mnF (T 15) L (E - P) P 0 else T 0 20)) 19 K) 22 (nI E) → V G mX12_stepOn d 0 0 (xE none (wH G b tbM (upR T 0 (upd (upd (upd (upd (upd (T 0) 17 (nI E)) 21 (nI P)) 20 (if K = 2 then mnF (T 15) L (E - P) P 0 else T 0 20)) 19 K) 22 (nI E))) h0)) 212 [some (.ref (b + 0)), some (.int z)] [] (wH G b tbM (upR T 0 g) h0) := by
    intro g z hg e
    refine V_aload_n (pc := 212) (i := 0) dX12_stepOn_212 rfl rfl ?_
    refine V_aload_n (pc := 213) (i := 0) dX12_stepOn_213 rfl rfl ?_
    refine VW_getI (pc := 214) dX12_stepOn_214 fX12_156 (by first | assumption | rfl) rfl ?_
    rw [upR_same, hg]
    refine VW_putI (pc := 217) dX12_stepOn_217 fX12_189 ftX12 (fpI rfl rfl (tyX12_ok 22 (by decide))) (by first | assumption | rfl) rfl (by assumption) ?_
    rw [up2_upR, e]
    exact VE_vret (pc := 220) dX12_stepOn_220 rfl rfl
  have u20 : upd (T 0) 20 (T 0 20) = T 0 := funext fun j => by
    by_cases e : j = 20
    · subst e; rw [updS]
    · rw [updN e]
  refine V_icmp_ne (pc := 58) 69 dX12_stepOn_58 rfl (fun c58 => ?_) (fun c58 => ?_)
  · refine V_iload_n (pc := 69) (i := 1) dX12_stepOn_69 rfl rfl ?_
    refine V_S1i (pc := 70) dX12_stepOn_70 cX12_169 (X12_isLetter (d := 0) _) (Nat.le_of_ble_eq_true rfl) (by omega) (Nat.le_of_ble_eq_true rfl) ?_
    refine V_if_eq (pc := 73) 111 dX12_stepOn_73 rfl (fun c73 => ?_) (fun c73 => ?_)
    · have nl : isLt (bya (T 15) L P) = false := b2i_0.mp c73
      refine V_iload_n (pc := 111) (i := 1) dX12_stepOn_111 rfl rfl ?_
      refine V_S1i (pc := 112) dX12_stepOn_112 cX12_173 (X12_isDigit (d := 0) _) (Nat.le_of_ble_eq_true rfl) (by omega) (Nat.le_of_ble_eq_true rfl) ?_
      refine V_if_eq (pc := 115) 186 dX12_stepOn_115 rfl (fun c115 => ?_) (fun c115 => ?_)
      · -- a sign, or none
        have nd : isDg (bya (T 15) L P) = false := b2i_0.mp c115
        have hKs : K = if mrk (bya (T 15) L P) then 3 else 4 := by rw [hK]; exact knd_s c58 nl nd
        have hK2 : ¬ K = 2 := by rw [hKs]; split <;> decide
        have hK1 : ¬ K = 1 := by rw [hKs]; split <;> decide
        have hPL : P < L := by
          rcases Nat.lt_or_ge P L with q | q
          · exact q
          · exact absurd (by unfold bya; rw [if_neg (by omega)]) c58
        have eE : E = P + 1 := by rw [hEn (fun q => q.elim hK1 hK2)]; omega
        refine V_aload_n (pc := 186) (i := 0) dX12_stepOn_186 rfl rfl ?_
        refine V_dup (pc := 187) dX12_stepOn_187 rfl ?_
        refine VW_getI (pc := 188) dX12_stepOn_188 fX12_156 (by first | assumption | rfl) rfl ?_
        rw [upR_same, updN (by decide), updS]
        refine V_iconst (pc := 191) (v := 1) dX12_stepOn_191 (by decide) ?_
        refine V_iadd (pc := 192) dX12_stepOn_192 ?_
        rw [nI_1]
        refine VW_putI (pc := 193) dX12_stepOn_193 fX12_156 ftX12 (fpI rfl rfl (tyX12_ok 17 (by decide))) (by first | assumption | rfl) rfl (by assumption) ?_
        rw [up2_upR]
        refine V_aload_n (pc := 196) (i := 0) dX12_stepOn_196 rfl rfl ?_
        refine V_iload_n (pc := 197) (i := 1) dX12_stepOn_197 rfl rfl ?_
        refine V_S1i (pc := 198) dX12_stepOn_198 cX12_186 (X12_isMark (d := 0) _) (Nat.le_of_ble_eq_true rfl) (by omega) (Nat.le_of_ble_eq_true rfl) ?_
        have ee : ∀ k : Int32, k = K → upd (upd (upd (upd (upd (T 0) 17 (nI P)) 21 (nI P)) 17 (nI (P + 1))) 19 k) 22 (nI E) = upd (upd (upd (upd (upd (T 0) 17 (nI E)) 21 (nI P)) 20 (if K = 2 then mnF (T 15) L (E - P) P 0 else T 0 20)) 19 K) 22 (nI E) := fun k hk => by
          rw [if_neg hK2, hk, eE, updC (f := upd (T 0) 17 (nI (P + 1))) (j := 21) (k := 20) (by decide), updC (f := T 0) (j := 17) (k := 20) (by decide), u20, updC (f := upd (T 0) 17 (nI P)) (j := 21) (k := 17) (by decide), updU]
        refine V_if_eq (pc := 201) 208 dX12_stepOn_201 rfl (fun c201 => ?_) (fun c201 => ?_)
        · refine V_iconst (pc := 208) (v := 4) dX12_stepOn_208 (by decide) ?_
          refine VW_putI (pc := 209) dX12_stepOn_209 fX12_166 ftX12 (fpI rfl rfl (tyX12_ok 19 (by decide))) (by first | assumption | rfl) rfl (by assumption) ?_
          rw [up2_upR]
          exact fin _ _ (by rw [updN (by decide), updS, eE]) (ee 4 (by rw [hKs, b2i_0.mp c201]; rfl))
        · refine V_iconst (pc := 204) (v := 3) dX12_stepOn_204 (by decide) ?_
          refine V_goto (pc := 205) 209 dX12_stepOn_205 rfl ?_
          refine VW_putI (pc := 209) dX12_stepOn_209 fX12_166 ftX12 (fpI rfl rfl (tyX12_ok 19 (by decide))) (by first | assumption | rfl) rfl (by assumption) ?_
          rw [up2_upR]
          exact fin _ _ (by rw [updN (by decide), updS, eE]) (ee 3 (by rw [hKs, b2i_n0.mp c201]; rfl))
      · -- a number
        have hK2 : K = 2 := by rw [hK]; exact knd_2.mpr (b2i_n0.mp c115)
        obtain ⟨hPL, hE⟩ := hE1 (Or.inr hK2)
        rw [hK2] at hE
        refine V_aload_n (pc := 118) (i := 0) dX12_stepOn_118 rfl rfl ?_
        refine V_iconst (pc := 119) (v := 0) dX12_stepOn_119 (by decide) ?_
        refine VW_putI (pc := 120) dX12_stepOn_120 fX12_176 ftX12 (fpI rfl rfl (tyX12_ok 20 (by decide))) (by first | assumption | rfl) rfl (by assumption) ?_
        rw [up2_upR]
        have loop : ∀ (m q : Nat) (x : Int32) (Q : xR → xH → Prop), m + q = L → V G mX12_stepOn d 0 0 Q 178 [some (.ref (b + 0)), some (.int (bya (T 15) L P))] [] (wH G b tbM (upR T 0 (upd (upd (upd (T 0) 21 (nI P)) 20 (mnF (T 15) L (runB (T 15) L 2 m q - q) q x)) 17 (nI (runB (T 15) L 2 m q)))) h0) → V G mX12_stepOn d 0 0 Q 123 [some (.ref (b + 0)), some (.int (bya (T 15) L P))] [] (wH G b tbM (upR T 0 (upd (upd (upd (T 0) 21 (nI P)) 20 x) 17 (nI q))) h0) := by
          intro m
          have h18 : ∀ (q : Nat) (x : Int32), upd (upd (upd (T 0) 21 (nI P)) 20 x) 17 (nI q) 18 = nI L := fun q x => by rw [updN (by decide), updN (by decide), updN (by decide)]; exact hL
          induction m with
          | zero =>
            intro q x Q hm k
            rw [runB, Nat.sub_self, mnF] at k
            refine V_aload_n (pc := 123) (i := 0) dX12_stepOn_123 rfl rfl ?_
            refine V_aload_n (pc := 124) (i := 0) dX12_stepOn_124 rfl rfl ?_
            refine VW_getI (pc := 125) dX12_stepOn_125 fX12_156 (by first | assumption | rfl) rfl ?_
            rw [upR_same, updS]
            refine V_V1i (pc := 128) dX12_stepOn_128 cX12_159 (by first | assumption | rfl) (bA _ q (h18 q x) (by omega)) (Nat.le_of_ble_eq_true rfl) (by omega) (Nat.le_of_ble_eq_true rfl) ?_
            refine V_S1i (pc := 131) dX12_stepOn_131 cX12_173 (X12_isDigit (d := 0) _) (Nat.le_of_ble_eq_true rfl) (by omega) (Nat.le_of_ble_eq_true rfl) ?_
            refine V_if_eq (pc := 134) 178 dX12_stepOn_134 rfl (fun c134 => ?_) (fun c134 => ?_)
            · exact k
            · exact absurd (by unfold bya; rw [if_neg (by omega)]; decide) c134
          | succ m ih =>
            intro q x Q hm k
            rw [runB] at k
            refine V_aload_n (pc := 123) (i := 0) dX12_stepOn_123 rfl rfl ?_
            refine V_aload_n (pc := 124) (i := 0) dX12_stepOn_124 rfl rfl ?_
            refine VW_getI (pc := 125) dX12_stepOn_125 fX12_156 (by first | assumption | rfl) rfl ?_
            rw [upR_same, updS]
            refine V_V1i (pc := 128) dX12_stepOn_128 cX12_159 (by first | assumption | rfl) (bA _ q (h18 q x) (by omega)) (Nat.le_of_ble_eq_true rfl) (by omega) (Nat.le_of_ble_eq_true rfl) ?_
            refine V_S1i (pc := 131) dX12_stepOn_131 cX12_173 (X12_isDigit (d := 0) _) (Nat.le_of_ble_eq_true rfl) (by omega) (Nat.le_of_ble_eq_true rfl) ?_
            refine V_if_eq (pc := 134) 178 dX12_stepOn_134 rfl (fun c134 => ?_) (fun c134 => ?_)
            · rw [if_neg (fun z => by rw [knd_2.mp z] at c134; exact absurd c134 (by decide)), Nat.sub_self, mnF] at k
              exact k
            · have le := (runB_le (B := T 15) (L := L) (k := 2) m (q + 1)).1
              rw [if_pos (knd_2.mpr (b2i_n0.mp c134)), show runB (T 15) L 2 m (q + 1) - q = (runB (T 15) L 2 m (q + 1) - (q + 1)) + 1 by omega, mnF] at k
              refine V_aload_n (pc := 137) (i := 0) dX12_stepOn_137 rfl rfl ?_
              refine V_ldc (pc := 138) dX12_stepOn_138 lX12_179 ?_
              refine V_bipush (pc := 140) (v := 10) dX12_stepOn_140 (by decide) ?_
              refine V_aload_n (pc := 142) (i := 0) dX12_stepOn_142 rfl rfl ?_
              refine VW_getI (pc := 143) dX12_stepOn_143 fX12_176 (by first | assumption | rfl) rfl ?_
              rw [upR_same, updN (by decide), updS]
              refine V_imul (pc := 146) dX12_stepOn_146 ?_
              refine V_aload_n (pc := 147) (i := 0) dX12_stepOn_147 rfl rfl ?_
              refine V_aload_n (pc := 148) (i := 0) dX12_stepOn_148 rfl rfl ?_
              refine VW_getI (pc := 149) dX12_stepOn_149 fX12_156 (by first | assumption | rfl) rfl ?_
              rw [upR_same, updS]
              refine V_V1i (pc := 152) dX12_stepOn_152 cX12_159 (by first | assumption | rfl) (bA _ q (h18 q x) (by omega)) (Nat.le_of_ble_eq_true rfl) (by omega) (Nat.le_of_ble_eq_true rfl) ?_
              refine V_iadd (pc := 155) dX12_stepOn_155 ?_
              refine V_bipush (pc := 156) (v := 48) dX12_stepOn_156 (by decide) ?_
              refine V_isub (pc := 158) dX12_stepOn_158 ?_
              refine V_min (pc := 159) dX12_stepOn_159 cX12_180 w_minS w_mathI w_minC (by omega) (Nat.le_of_ble_eq_true rfl) ?_
              refine VW_putI (pc := 162) dX12_stepOn_162 fX12_176 ftX12 (fpI rfl rfl (tyX12_ok 20 (by decide))) (by first | assumption | rfl) rfl (by assumption) ?_
              rw [up2_upR]
              refine V_aload_n (pc := 165) (i := 0) dX12_stepOn_165 rfl rfl ?_
              refine V_dup (pc := 166) dX12_stepOn_166 rfl ?_
              refine VW_getI (pc := 167) dX12_stepOn_167 fX12_156 (by first | assumption | rfl) rfl ?_
              rw [upR_same, updN (by decide), updS]
              refine V_iconst (pc := 170) (v := 1) dX12_stepOn_170 (by decide) ?_
              refine V_iadd (pc := 171) dX12_stepOn_171 ?_
              rw [nI_1]
              refine VW_putI (pc := 172) dX12_stepOn_172 fX12_156 ftX12 (fpI rfl rfl (tyX12_ok 17 (by decide))) (by first | assumption | rfl) rfl (by assumption) ?_
              rw [up2_upR, updC (f := upd (upd (T 0) 21 (nI P)) 20 x) (j := 17) (k := 20) (by decide), updU, updU]
              refine V_goto (pc := 175) 123 dX12_stepOn_175 rfl ?_
              exact ih (q + 1) _ Q (by omega) k
        rw [show upd (upd (upd (T 0) 17 (nI P)) 21 (nI P)) 20 0 = upd (upd (upd (T 0) 21 (nI P)) 20 0) 17 (nI P) by rw [updC (f := T 0) (j := 17) (k := 21) (by decide), updC (f := upd (T 0) 21 (nI P)) (j := 17) (k := 20) (by decide)]]
        refine loop (L - P) P 0 _ (by omega) ?_
        rw [hE]
        refine V_aload_n (pc := 178) (i := 0) dX12_stepOn_178 rfl rfl ?_
        refine V_iconst (pc := 179) (v := 2) dX12_stepOn_179 (by decide) ?_
        refine VW_putI (pc := 180) dX12_stepOn_180 fX12_166 ftX12 (fpI rfl rfl (tyX12_ok 19 (by decide))) (by first | assumption | rfl) rfl (by assumption) ?_
        rw [up2_upR]
        refine V_goto (pc := 183) 212 dX12_stepOn_183 rfl ?_
        refine fin _ _ (by rw [updN (by decide), updS]) ?_
        rw [if_pos hK2, hK2, updC (f := upd (upd (T 0) 17 (nI E)) 21 (nI P)) (j := 20) (k := 19) (by decide)]
        rw [updC (f := upd (upd (T 0) 21 (nI P)) 20 (mnF (T 15) L (E - P) P 0)) (j := 17) (k := 19) (by decide), updC (f := upd (T 0) 21 (nI P)) (j := 20) (k := 19) (by decide), updC (f := upd (upd (T 0) 21 (nI P)) 19 2) (j := 20) (k := 17) (by decide), updC (f := upd (T 0) 21 (nI P)) (j := 19) (k := 17) (by decide), updC (f := T 0) (j := 21) (k := 17) (by decide)]
    · -- a word
      have hK1 : K = 1 := by rw [hK]; exact knd_1.mpr (b2i_n0.mp c73)
      obtain ⟨hPL, hE⟩ := hE1 (Or.inl hK1)
      rw [hK1] at hE
      have loop : ∀ (m q : Nat) (Q : xR → xH → Prop), m + q = L → V G mX12_stepOn d 0 0 Q 103 [some (.ref (b + 0)), some (.int (bya (T 15) L P))] [] (wH G b tbM (upR T 0 (upd (upd (T 0) 21 (nI P)) 17 (nI (runB (T 15) L 1 m q)))) h0) → V G mX12_stepOn d 0 0 Q 76 [some (.ref (b + 0)), some (.int (bya (T 15) L P))] [] (wH G b tbM (upR T 0 (upd (upd (T 0) 21 (nI P)) 17 (nI q))) h0) := by
        intro m
        have h18 : ∀ (q : Nat), upd (upd (T 0) 21 (nI P)) 17 (nI q) 18 = nI L := fun q => by rw [updN (by decide), updN (by decide)]; exact hL
        induction m with
        | zero =>
          intro q Q hm k
          rw [runB] at k
          refine V_aload_n (pc := 76) (i := 0) dX12_stepOn_76 rfl rfl ?_
          refine V_aload_n (pc := 77) (i := 0) dX12_stepOn_77 rfl rfl ?_
          refine VW_getI (pc := 78) dX12_stepOn_78 fX12_156 (by first | assumption | rfl) rfl ?_
          rw [upR_same, updS]
          refine V_V1i (pc := 81) dX12_stepOn_81 cX12_159 (by first | assumption | rfl) (bA _ q (h18 q) (by omega)) (Nat.le_of_ble_eq_true rfl) (by omega) (Nat.le_of_ble_eq_true rfl) ?_
          refine V_S1i (pc := 84) dX12_stepOn_84 cX12_169 (X12_isLetter (d := 0) _) (Nat.le_of_ble_eq_true rfl) (by omega) (Nat.le_of_ble_eq_true rfl) ?_
          refine V_if_eq (pc := 87) 103 dX12_stepOn_87 rfl (fun c87 => ?_) (fun c87 => ?_)
          · exact k
          · exact absurd (by unfold bya; rw [if_neg (by omega)]; decide) c87
        | succ m ih =>
          intro q Q hm k
          rw [runB] at k
          refine V_aload_n (pc := 76) (i := 0) dX12_stepOn_76 rfl rfl ?_
          refine V_aload_n (pc := 77) (i := 0) dX12_stepOn_77 rfl rfl ?_
          refine VW_getI (pc := 78) dX12_stepOn_78 fX12_156 (by first | assumption | rfl) rfl ?_
          rw [upR_same, updS]
          refine V_V1i (pc := 81) dX12_stepOn_81 cX12_159 (by first | assumption | rfl) (bA _ q (h18 q) (by omega)) (Nat.le_of_ble_eq_true rfl) (by omega) (Nat.le_of_ble_eq_true rfl) ?_
          refine V_S1i (pc := 84) dX12_stepOn_84 cX12_169 (X12_isLetter (d := 0) _) (Nat.le_of_ble_eq_true rfl) (by omega) (Nat.le_of_ble_eq_true rfl) ?_
          refine V_if_eq (pc := 87) 103 dX12_stepOn_87 rfl (fun c87 => ?_) (fun c87 => ?_)
          · rw [if_neg (fun z => by rw [knd_1.mp z] at c87; exact absurd c87 (by decide))] at k
            exact k
          · rw [if_pos (knd_1.mpr (b2i_n0.mp c87))] at k
            refine V_aload_n (pc := 90) (i := 0) dX12_stepOn_90 rfl rfl ?_
            refine V_dup (pc := 91) dX12_stepOn_91 rfl ?_
            refine VW_getI (pc := 92) dX12_stepOn_92 fX12_156 (by first | assumption | rfl) rfl ?_
            rw [upR_same, updS]
            refine V_iconst (pc := 95) (v := 1) dX12_stepOn_95 (by decide) ?_
            refine V_iadd (pc := 96) dX12_stepOn_96 ?_
            rw [nI_1]
            refine VW_putI (pc := 97) dX12_stepOn_97 fX12_156 ftX12 (fpI rfl rfl (tyX12_ok 17 (by decide))) (by first | assumption | rfl) rfl (by assumption) ?_
            rw [up2_upR, updU]
            refine V_goto (pc := 100) 76 dX12_stepOn_100 rfl ?_
            exact ih (q + 1) Q (by omega) k
      rw [updC (f := T 0) (j := 17) (k := 21) (x := nI P) (y := nI P) (by decide)]
      refine loop (L - P) P _ (by omega) ?_
      rw [hE]
      refine V_aload_n (pc := 103) (i := 0) dX12_stepOn_103 rfl rfl ?_
      refine V_iconst (pc := 104) (v := 1) dX12_stepOn_104 (by decide) ?_
      refine VW_putI (pc := 105) dX12_stepOn_105 fX12_166 ftX12 (fpI rfl rfl (tyX12_ok 19 (by decide))) (by first | assumption | rfl) rfl (by assumption) ?_
      rw [up2_upR]
      refine V_goto (pc := 108) 212 dX12_stepOn_108 rfl ?_
      refine fin _ _ (by rw [updN (by decide), updS]) ?_
      rw [if_neg (by rw [hK1]; decide), hK1, updC (f := upd (T 0) 17 (nI E)) (j := 21) (k := 20) (by decide), updC (f := T 0) (j := 17) (k := 20) (by decide), u20, updC (f := T 0) (j := 21) (k := 17) (by decide)]
  · -- the end
    have hK0 : K = 0 := by rw [hK]; exact knd_0.mpr c58
    have hPL : ¬ P < L := fun q => by
      obtain ⟨c, h1, h2⟩ := bo P (by omega)
      rw [bya_M q ⟨c, h1, h2⟩, h2] at c58
      exact nI_m1 (by omega) c58
    have eE : E = P := by rw [hEn (fun q => by rw [hK0] at q; revert q; decide)]; omega
    refine V_aload_n (pc := 61) (i := 0) dX12_stepOn_61 rfl rfl ?_
    refine V_iconst (pc := 62) (v := 0) dX12_stepOn_62 (by decide) ?_
    refine VW_putI (pc := 63) dX12_stepOn_63 fX12_166 ftX12 (fpI rfl rfl (tyX12_ok 19 (by decide))) (by first | assumption | rfl) rfl (by assumption) ?_
    rw [up2_upR]
    refine V_goto (pc := 66) 212 dX12_stepOn_66 rfl ?_
    refine fin _ _ (by rw [updN (by decide), updN (by decide), updS, eE]) ?_
    rw [if_neg (by rw [hK0]; decide), hK0, eE, updC (f := upd (T 0) 17 (nI P)) (j := 21) (k := 20) (by decide), updC (f := T 0) (j := 17) (k := 20) (by decide), u20]
end P1
