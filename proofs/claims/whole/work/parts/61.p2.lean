/-! ===== the model's reader: its small methods ===== -/
section P2
variable {G : xG} {M M' : xM} {d d' bc bs idx pc : Nat} {b : Nat} {ls : List (Option Value)} {st : List Value} {Q : xR → xH → Prop} {S T U : Nat → Nat → Int32} {h0 h : xH}
/-- where the model's reader stands -/
def PMI (T : Nat → Nat → Int32) (L P E : Nat) : Prop := T 0 18 = nI L ∧ L ≤ 700 ∧ T 0 17 = nI E ∧ T 0 21 = nI P ∧ T 0 22 = nI E ∧ P ≤ E ∧ E ≤ L ∧ BO T ∧ T 0 19 = knd (bya (T 15) L P)
theorem PMI_step {L P E : Nat} (p : PMI T L P E) : PMI (mStep T L E) L (tkP (T 15) L E) (tkE (T 15) L E) := by
  obtain ⟨a1, a2, a3, a4, a5, a6, a7, a8, a9⟩ := p
  have l2 := tkE_le (B := T 15) a7
  unfold mStep
  refine ⟨?_, a2, ?_, ?_, ?_, l2.1, l2.2.1, ?_, ?_⟩
  · rw [upR_same]; unfold stR; simp (disch := omega) only [updN]; exact a1
  · rw [upR_same]; unfold stR; simp (disch := omega) only [updN, updS]
  · rw [upR_same]; unfold stR; simp (disch := omega) only [updN, updS]
  · rw [upR_same]; unfold stR; simp (disch := omega) only [updN, updS]
  · unfold BO; rw [upR_row (by decide)]; exact a8
  · rw [upR_same, upR_row (by decide)]; unfold stR; simp (disch := omega) only [updN, updS]; rfl
theorem mStep_off {L p k : Nat} (h : k ≠ 0) : mStep T L p k = T k := upR_row h
theorem mStep_0 {L p j : Nat} (h : j < 17 ∨ j = 18 ∨ 22 < j) : mStep T L p 0 j = T 0 j := by
  unfold mStep stR
  rw [upR_same]
  simp (disch := omega) only [updN]
theorem X12_step {L P E : Nat} (p : PMI T L P E) (hb : gB G ≤ b) (hd : 1 ≤ d) : VM G mX12_stepOn d 0 0 [.ref (b + 0)] (xE none (wH G b tbM (mStep T L E) h0)) (wH G b tbM T h0) := X12_stepOn p.2.2.2.2.2.2.2.1 p.1 p.2.1 p.2.2.1 p.2.2.2.2.2.2.1 hb hd
def wrg (T : Nat → Nat → Int32) (k : Int32) : Nat → Nat → Int32 := up2 (up2 T 0 23 k) 0 24 (T 0 21)
theorem X12_wrong_ok (h0' : T 0 23 = 0) (k : Int32) (hb : gB G ≤ b) : VM G mX12_wrong d 0 0 [.ref (b + 0), .int k] (xE none (wH G b tbM (wrg T k) h0)) (wH G b tbM T h0) := by
  refine VM_start (ls := [some (.ref (b + 0)), some (.int k)]) rfl ?_
  unfold wrg
  -- %m X12_wrong
  refine V_aload_n (pc := 0) (i := 0) dX12_wrong_0 rfl rfl ?_
  refine VW_getI (pc := 1) dX12_wrong_1 fX12_192 (by first | assumption | rfl) rfl ?_
  refine V_if_eq (pc := 4) 8 dX12_wrong_4 rfl (fun c4 => ?_) (fun c4 => ?_)
  · refine V_aload_n (pc := 8) (i := 0) dX12_wrong_8 rfl rfl ?_
    refine V_iload_n (pc := 9) (i := 1) dX12_wrong_9 rfl rfl ?_
    refine VW_putI (pc := 10) dX12_wrong_10 fX12_192 ftX12 (fpI rfl rfl (tyX12_ok 23 (by decide))) (by first | assumption | rfl) rfl (by assumption) ?_
    refine V_aload_n (pc := 13) (i := 0) dX12_wrong_13 rfl rfl ?_
    refine V_aload_n (pc := 14) (i := 0) dX12_wrong_14 rfl rfl ?_
    refine VW_getI (pc := 15) dX12_wrong_15 fX12_163 (by first | assumption | rfl) rfl ?_
    rw [up2_col (by decide)]
    refine VW_putI (pc := 18) dX12_wrong_18 fX12_195 ftX12 (fpI rfl rfl (tyX12_ok 24 (by decide))) (by first | assumption | rfl) rfl (by assumption) ?_
    exact VE_vret (pc := 21) dX12_wrong_21 rfl rfl
  · exact absurd h0' c4
theorem X12_wrong_bad (h0' : ¬ T 0 23 = 0) (k : Int32) : VM G mX12_wrong d 0 0 [.ref (b + 0), .int k] (xE none (wH G b tbM T h0)) (wH G b tbM T h0) := by
  refine VM_start (ls := [some (.ref (b + 0)), some (.int k)]) rfl ?_
  -- %m X12_wrong
  refine V_aload_n (pc := 0) (i := 0) dX12_wrong_0 rfl rfl ?_
  refine VW_getI (pc := 1) dX12_wrong_1 fX12_192 (by first | assumption | rfl) rfl ?_
  refine V_if_eq (pc := 4) 8 dX12_wrong_4 rfl (fun c4 => ?_) (fun c4 => ?_)
  · exact absurd c4 h0'
  · exact VE_vret (pc := 7) dX12_wrong_7 rfl rfl
def mWrd (T : Nat → Nat → Int32) (L P E : Nat) (l : List Int32) : Bool := decide (T 0 19 = 1) && decide (E - P = l.length) && wrdF (T 15) L P l l.length 0
theorem X12_is {i L P E : Nat} {q : String × Nat × String × List Int32} (hi : xStr[i]? = some q) (p : PMI T L P E) (h0' : T 0 23 = 0) (hd : 4 ≤ d) : VM G mX12_is d 0 0 [.ref (b + 0), .ref (gK G i)] (xE (some (.int (b2i (mWrd T L P E q.2.2.2)))) (wH G b tbM T h0)) (wH G b tbM T h0) := by
  obtain ⟨a1, a2, a3, a4, a5, a6, a7, a8, a9⟩ := id p
  have hl := xStr_len hi
  refine VM_start (ls := [some (.ref (b + 0)), some (.ref (gK G i)), none, none]) rfl ?_
  unfold mWrd
  -- %m X12_is
  refine V_aload_n (pc := 0) (i := 0) dX12_is_0 rfl rfl ?_
  refine VW_getI (pc := 1) dX12_is_1 fX12_192 (by first | assumption | rfl) rfl ?_
  refine V_if_ne (pc := 4) 35 dX12_is_4 rfl (fun c => absurd h0' c) (fun _ => ?_)
  have no : ∀ x : Bool, x = false → V G mX12_is d 0 0 (xE (some (.int (b2i x))) (wH G b tbM T h0)) 35 [some (.ref (b + 0)), some (.ref (gK G i)), none, none] [] (wH G b tbM T h0) := by
    intro x hx
    rw [hx]
    refine V_iconst (pc := 35) (v := 0) dX12_is_35 (by decide) ?_
    refine V_istore_n (pc := 36) (i := 2) dX12_is_36 rfl (by decide) rfl ?_
    refine V_iconst (pc := 37) (v := 0) dX12_is_37 (by decide) ?_
    refine V_istore_n (pc := 38) (i := 3) dX12_is_38 rfl (by decide) rfl ?_
    refine V_iload_n (pc := 39) (i := 2) dX12_is_39 rfl rfl ?_
    refine V_if_eq (pc := 40) 82 dX12_is_40 rfl (fun _ => ?_) (fun c => absurd rfl c)
    refine V_iload_n (pc := 82) (i := 2) dX12_is_82 rfl rfl ?_
    exact VE_zret (pc := 83) dX12_is_83 rfl (Or.inl rfl) rfl rfl
  refine V_aload_n (pc := 7) (i := 0) dX12_is_7 rfl rfl ?_
  refine VW_getI (pc := 8) dX12_is_8 fX12_166 (by first | assumption | rfl) rfl ?_
  refine V_iconst (pc := 11) (v := 1) dX12_is_11 (by decide) ?_
  refine V_icmp_ne (pc := 12) 35 dX12_is_12 rfl (fun c12 => ?_) (fun c12 => ?_)
  · exact no _ (by rw [decide_eq_false c12]; rfl)
  · rw [decide_eq_true c12, Bool.true_and]
    refine V_aload_n (pc := 15) (i := 1) dX12_is_15 rfl rfl ?_
    refine V_s0 (pc := 16) dX12_is_16 sX12_198 hi (J0_length (d := 1) hi (by omega)) (Nat.le_of_ble_eq_true rfl) (by omega) (Nat.le_of_ble_eq_true rfl) ?_
    refine V_aload_n (pc := 19) (i := 0) dX12_is_19 rfl rfl ?_
    refine VW_getI (pc := 20) dX12_is_20 fX12_189 (by first | assumption | rfl) rfl ?_
    refine V_aload_n (pc := 23) (i := 0) dX12_is_23 rfl rfl ?_
    refine VW_getI (pc := 24) dX12_is_24 fX12_163 (by first | assumption | rfl) rfl ?_
    refine V_isub (pc := 27) dX12_is_27 ?_
    rw [a4, a5, pk_sub a6]
    refine V_icmp_ne (pc := 28) 35 dX12_is_28 rfl (fun c28 => ?_) (fun c28 => ?_)
    · exact no _ (by rw [decide_eq_false (fun z => c28 (by rw [z]))]; rfl)
    · have hlen : q.2.2.2.length = E - P := (nI_eq (by omega) (by omega)).mp c28
      rw [decide_eq_true hlen.symm, Bool.true_and]
      refine V_iconst (pc := 31) (v := 1) dX12_is_31 (by decide) ?_
      refine V_goto (pc := 32) 36 dX12_is_32 rfl ?_
      refine V_istore_n (pc := 36) (i := 2) dX12_is_36 rfl (by decide) rfl ?_
      refine V_iconst (pc := 37) (v := 0) dX12_is_37 (by decide) ?_
      refine V_istore_n (pc := 38) (i := 3) dX12_is_38 rfl (by decide) rfl ?_
      have loop : ∀ (m k : Nat), m + k = q.2.2.2.length → V G mX12_is d 0 0 (xE (some (.int (b2i (wrdF (T 15) L P q.2.2.2 m k)))) (wH G b tbM T h0)) 39 [some (.ref (b + 0)), some (.ref (gK G i)), some (.int 1), some (.int (nI k))] [] (wH G b tbM T h0) := by
        intro m
        induction m with
        | zero =>
          intro k hm
          refine V_iload_n (pc := 39) (i := 2) dX12_is_39 rfl rfl ?_
          refine V_if_eq (pc := 40) 82 dX12_is_40 rfl (fun c => absurd c (by decide)) (fun _ => ?_)
          refine V_iload_n (pc := 43) (i := 3) dX12_is_43 rfl rfl ?_
          refine V_aload_n (pc := 44) (i := 1) dX12_is_44 rfl rfl ?_
          refine V_s0 (pc := 45) dX12_is_45 sX12_198 hi (J0_length (d := 1) hi (by omega)) (Nat.le_of_ble_eq_true rfl) (by omega) (Nat.le_of_ble_eq_true rfl) ?_
          refine V_icmp_ge (pc := 48) 82 dX12_is_48 rfl (fun c48 => ?_) (fun c48 => ?_)
          · refine V_iload_n (pc := 82) (i := 2) dX12_is_82 rfl rfl ?_
            exact VE_zret (pc := 83) dX12_is_83 rfl (Or.inr rfl) rfl rfl
          · exact absurd (by rw [show k = q.2.2.2.length by omega]; exact nI_le (by omega) (by omega)) c48
        | succ m ih =>
          intro k hm
          rw [wrdF, bya_M (k := P + k) (by omega) (a8 _ (by omega))]
          refine V_iload_n (pc := 39) (i := 2) dX12_is_39 rfl rfl ?_
          refine V_if_eq (pc := 40) 82 dX12_is_40 rfl (fun c => absurd c (by decide)) (fun _ => ?_)
          refine V_iload_n (pc := 43) (i := 3) dX12_is_43 rfl rfl ?_
          refine V_aload_n (pc := 44) (i := 1) dX12_is_44 rfl rfl ?_
          refine V_s0 (pc := 45) dX12_is_45 sX12_198 hi (J0_length (d := 1) hi (by omega)) (Nat.le_of_ble_eq_true rfl) (by omega) (Nat.le_of_ble_eq_true rfl) ?_
          refine V_icmp_ge (pc := 48) 82 dX12_is_48 rfl (fun c48 => ?_) (fun c48 => ?_)
          · exact absurd c48 (nI_ge (by omega) (by omega))
          · refine V_aload_n (pc := 51) (i := 1) dX12_is_51 rfl rfl ?_
            refine V_iload_n (pc := 52) (i := 3) dX12_is_52 rfl rfl ?_
            refine V_s1 (pc := 53) dX12_is_53 sX12_202 hi (J0_charAt (d := 3) (k := k) hi (by omega) (by omega)) (Nat.le_of_ble_eq_true rfl) (by omega) (Nat.le_of_ble_eq_true rfl) ?_
            refine V_aload_n (pc := 56) (i := 0) dX12_is_56 rfl rfl ?_
            refine VW_getR (pc := 57) dX12_is_57 fX12_73 (by first | assumption | rfl) rfl ?_
            refine V_aload_n (pc := 60) (i := 0) dX12_is_60 rfl rfl ?_
            refine VW_getI (pc := 61) dX12_is_61 fX12_163 (by first | assumption | rfl) rfl ?_
            rw [a4]
            refine V_iload_n (pc := 64) (i := 3) dX12_is_64 rfl rfl ?_
            refine V_iadd (pc := 65) dX12_is_65 ?_
            refine VW_ialdN (pc := 66) dX12_is_66 (by first | assumption | rfl) (j := P + k) (nI_add P k) (by omega) (by first | decide | omega) ?_
            refine V_icmp_ne (pc := 67) 74 dX12_is_67 rfl (fun c67 => ?_) (fun c67 => ?_)
            · rw [if_neg (fun z => c67 z.symm)]
              refine V_iconst (pc := 74) (v := 0) dX12_is_74 (by decide) ?_
              refine V_istore_n (pc := 75) (i := 2) dX12_is_75 rfl (by decide) rfl ?_
              refine V_iinc (pc := 76) dX12_is_76 (by decide) rfl rfl (iincN (n := 1) (by decide)) ?_
              refine V_goto (pc := 79) 39 dX12_is_79 rfl ?_
              refine V_iload_n (pc := 39) (i := 2) dX12_is_39 rfl rfl ?_
              refine V_if_eq (pc := 40) 82 dX12_is_40 rfl (fun _ => ?_) (fun c => absurd rfl c)
              refine V_iload_n (pc := 82) (i := 2) dX12_is_82 rfl rfl ?_
              exact VE_zret (pc := 83) dX12_is_83 rfl (Or.inl rfl) rfl rfl
            · rw [if_pos c67.symm]
              refine V_iconst (pc := 70) (v := 1) dX12_is_70 (by decide) ?_
              refine V_goto (pc := 71) 75 dX12_is_71 rfl ?_
              refine V_istore_n (pc := 75) (i := 2) dX12_is_75 rfl (by decide) rfl ?_
              refine V_iinc (pc := 76) dX12_is_76 (by decide) rfl rfl (iincN (n := 1) (by decide)) ?_
              refine V_goto (pc := 79) 39 dX12_is_79 rfl ?_
              exact ih (k + 1) (by omega)
      exact loop _ 0 rfl
theorem X12_is_bad {a : Nat} (h0' : ¬ T 0 23 = 0) : VM G mX12_is d 0 0 [.ref (b + 0), .ref a] (xE (some (.int 0)) (wH G b tbM T h0)) (wH G b tbM T h0) := by
  refine VM_start (ls := [some (.ref (b + 0)), some (.ref a), none, none]) rfl ?_
  -- %m X12_is
  refine V_aload_n (pc := 0) (i := 0) dX12_is_0 rfl rfl ?_
  refine VW_getI (pc := 1) dX12_is_1 fX12_192 (by first | assumption | rfl) rfl ?_
  refine V_if_ne (pc := 4) 35 dX12_is_4 rfl (fun _ => ?_) (fun c => absurd c h0')
  refine V_iconst (pc := 35) (v := 0) dX12_is_35 (by decide) ?_
  refine V_istore_n (pc := 36) (i := 2) dX12_is_36 rfl (by decide) rfl ?_
  refine V_iconst (pc := 37) (v := 0) dX12_is_37 (by decide) ?_
  refine V_istore_n (pc := 38) (i := 3) dX12_is_38 rfl (by decide) rfl ?_
  refine V_iload_n (pc := 39) (i := 2) dX12_is_39 rfl rfl ?_
  refine V_if_eq (pc := 40) 82 dX12_is_40 rfl (fun _ => ?_) (fun c => absurd rfl c)
  refine V_iload_n (pc := 82) (i := 2) dX12_is_82 rfl rfl ?_
  exact VE_zret (pc := 83) dX12_is_83 rfl (Or.inl rfl) rfl rfl
def mMk (T : Nat → Nat → Int32) (P : Nat) (c : Int32) : Bool := decide (T 0 19 = 3) && decide (T 15 P = c)
theorem kind_lt {L P E : Nat} (p : PMI T L P E) (h : ¬ T 0 19 = 0) : P < L := by
  obtain ⟨a1, a2, a3, a4, a5, a6, a7, a8, a9⟩ := id p
  rcases Nat.lt_or_ge P L with q | q
  · exact q
  · exact absurd (by rw [a9]; unfold bya; rw [if_neg (by omega)]; decide) h
theorem X12_isMarked {L P E : Nat} (p : PMI T L P E) (h0' : T 0 23 = 0) (c : Int32) : VM G mX12_isMarked d 0 0 [.ref (b + 0), .int c] (xE (some (.int (b2i (mMk T P c)))) (wH G b tbM T h0)) (wH G b tbM T h0) := by
  obtain ⟨a1, a2, a3, a4, a5, a6, a7, a8, a9⟩ := id p
  refine VM_start (ls := [some (.ref (b + 0)), some (.int c)]) rfl ?_
  unfold mMk
  -- %m X12_isMarked
  refine V_aload_n (pc := 0) (i := 0) dX12_isMarked_0 rfl rfl ?_
  refine VW_getI (pc := 1) dX12_isMarked_1 fX12_192 (by first | assumption | rfl) rfl ?_
  refine V_if_ne (pc := 4) 32 dX12_isMarked_4 rfl (fun c => absurd h0' c) (fun _ => ?_)
  refine V_aload_n (pc := 7) (i := 0) dX12_isMarked_7 rfl rfl ?_
  refine VW_getI (pc := 8) dX12_isMarked_8 fX12_166 (by first | assumption | rfl) rfl ?_
  refine V_iconst (pc := 11) (v := 3) dX12_isMarked_11 (by decide) ?_
  refine V_icmp_ne (pc := 12) 32 dX12_isMarked_12 rfl (fun c12 => ?_) (fun c12 => ?_)
  · refine V_iconst (pc := 32) (v := 0) dX12_isMarked_32 (by decide) ?_
    exact VE_zret (pc := 33) dX12_isMarked_33 rfl (Or.inl rfl) (by rw [decide_eq_false c12]; rfl) rfl
  · have hP := kind_lt p (by rw [c12]; decide)
    rw [decide_eq_true c12, Bool.true_and]
    refine V_aload_n (pc := 15) (i := 0) dX12_isMarked_15 rfl rfl ?_
    refine VW_getR (pc := 16) dX12_isMarked_16 fX12_73 (by first | assumption | rfl) rfl ?_
    refine V_aload_n (pc := 19) (i := 0) dX12_isMarked_19 rfl rfl ?_
    refine VW_getI (pc := 20) dX12_isMarked_20 fX12_163 (by first | assumption | rfl) rfl ?_
    rw [a4]
    refine VW_ialdN (pc := 23) dX12_isMarked_23 (by first | assumption | rfl) (j := P) rfl (by omega) (by first | decide | omega) ?_
    refine V_iload_n (pc := 24) (i := 1) dX12_isMarked_24 rfl rfl ?_
    refine V_icmp_ne (pc := 25) 32 dX12_isMarked_25 rfl (fun c25 => ?_) (fun c25 => ?_)
    · refine V_iconst (pc := 32) (v := 0) dX12_isMarked_32 (by decide) ?_
      exact VE_zret (pc := 33) dX12_isMarked_33 rfl (Or.inl rfl) (by rw [decide_eq_false c25]; rfl) rfl
    · refine V_iconst (pc := 28) (v := 1) dX12_isMarked_28 (by decide) ?_
      refine V_goto (pc := 29) 33 dX12_isMarked_29 rfl ?_
      exact VE_zret (pc := 33) dX12_isMarked_33 rfl (Or.inr rfl) (by rw [decide_eq_true c25]; rfl) rfl
theorem X12_isMarked_bad (h0' : ¬ T 0 23 = 0) (c : Int32) : VM G mX12_isMarked d 0 0 [.ref (b + 0), .int c] (xE (some (.int 0)) (wH G b tbM T h0)) (wH G b tbM T h0) := by
  refine VM_start (ls := [some (.ref (b + 0)), some (.int c)]) rfl ?_
  -- %m X12_isMarked
  refine V_aload_n (pc := 0) (i := 0) dX12_isMarked_0 rfl rfl ?_
  refine VW_getI (pc := 1) dX12_isMarked_1 fX12_192 (by first | assumption | rfl) rfl ?_
  refine V_if_ne (pc := 4) 32 dX12_isMarked_4 rfl (fun _ => ?_) (fun c => absurd c h0')
  refine V_iconst (pc := 32) (v := 0) dX12_isMarked_32 (by decide) ?_
  exact VE_zret (pc := 33) dX12_isMarked_33 rfl (Or.inl rfl) rfl rfl
theorem X12_mark {L P E : Nat} (p : PMI T L P E) (h0' : T 0 23 = 0) (c : Int32) (hb : gB G ≤ b) (hd : 2 ≤ d) : VM G mX12_mark d 0 0 [.ref (b + 0), .int c] (xE none (wH G b tbM (if mMk T P c then mStep T L E else wrg T 1) h0)) (wH G b tbM T h0) := by
  refine VM_start (ls := [some (.ref (b + 0)), some (.int c)]) rfl ?_
  -- %m X12_mark
  refine V_aload_n (pc := 0) (i := 0) dX12_mark_0 rfl rfl ?_
  refine VW_getI (pc := 1) dX12_mark_1 fX12_192 (by first | assumption | rfl) rfl ?_
  refine V_if_ne (pc := 4) 20 dX12_mark_4 rfl (fun c4 => ?_) (fun c4 => ?_)
  · exact absurd h0' c4
  · refine V_aload_n (pc := 7) (i := 0) dX12_mark_7 rfl rfl ?_
    refine V_iload_n (pc := 8) (i := 1) dX12_mark_8 rfl rfl ?_
    refine V_V1i (pc := 9) dX12_mark_9 cX12_210 (by first | assumption | rfl) (X12_isMarked (d := 0) p h0' _) (Nat.le_of_ble_eq_true rfl) (by omega) (Nat.le_of_ble_eq_true rfl) ?_
    refine V_if_ne (pc := 12) 20 dX12_mark_12 rfl (fun c12 => ?_) (fun c12 => ?_)
    · rw [if_pos (b2i_n0.mp c12)]
      refine V_aload_n (pc := 20) (i := 0) dX12_mark_20 rfl rfl ?_
      refine VW_getI (pc := 21) dX12_mark_21 fX12_192 (by first | assumption | rfl) rfl ?_
      refine V_if_ne (pc := 24) 31 dX12_mark_24 rfl (fun c => absurd h0' c) (fun _ => ?_)
      refine V_aload_n (pc := 27) (i := 0) dX12_mark_27 rfl rfl ?_
      refine V_V0v (pc := 28) dX12_mark_28 cX12_217 (by first | assumption | rfl) (X12_step (d := 1) p hb (by omega)) (Nat.le_of_ble_eq_true rfl) (by omega) (Nat.le_of_ble_eq_true rfl) ?_
      exact VE_vret (pc := 31) dX12_mark_31 rfl rfl
    · rw [if_neg (by rw [b2i_0.mp c12]; decide)]
      refine V_aload_n (pc := 15) (i := 0) dX12_mark_15 rfl rfl ?_
      refine V_iconst (pc := 16) (v := 1) dX12_mark_16 (by decide) ?_
      refine V_V1v (pc := 17) dX12_mark_17 cX12_213 (by first | assumption | rfl) (X12_wrong_ok (d := 0) h0' _ hb) (Nat.le_of_ble_eq_true rfl) (by omega) (Nat.le_of_ble_eq_true rfl) ?_
      refine V_aload_n (pc := 20) (i := 0) dX12_mark_20 rfl rfl ?_
      refine VW_getI (pc := 21) dX12_mark_21 fX12_192 (by first | assumption | rfl) rfl ?_
      refine V_if_ne (pc := 24) 31 dX12_mark_24 rfl (fun _ => ?_) (fun c => absurd c (by unfold wrg; rw [up2_col (by decide), up2_same]; decide))
      exact VE_vret (pc := 31) dX12_mark_31 rfl rfl
theorem X12_mark_bad (h0' : ¬ T 0 23 = 0) (c : Int32) : VM G mX12_mark d 0 0 [.ref (b + 0), .int c] (xE none (wH G b tbM T h0)) (wH G b tbM T h0) := by
  refine VM_start (ls := [some (.ref (b + 0)), some (.int c)]) rfl ?_
  -- %m X12_mark
  refine V_aload_n (pc := 0) (i := 0) dX12_mark_0 rfl rfl ?_
  refine VW_getI (pc := 1) dX12_mark_1 fX12_192 (by first | assumption | rfl) rfl ?_
  refine V_if_ne (pc := 4) 20 dX12_mark_4 rfl (fun _ => ?_) (fun c => absurd c h0')
  refine V_aload_n (pc := 20) (i := 0) dX12_mark_20 rfl rfl ?_
  refine VW_getI (pc := 21) dX12_mark_21 fX12_192 (by first | assumption | rfl) rfl ?_
  refine V_if_ne (pc := 24) 31 dX12_mark_24 rfl (fun _ => ?_) (fun c => absurd c h0')
  exact VE_vret (pc := 31) dX12_mark_31 rfl rfl
/-- a NUMBER that must stand here -/
def mNum (T : Nat → Nat → Int32) (P E : Nat) (lo hi : Int32) : Int32 × (Nat → Nat → Int32) := if T 0 19 = 2 then (if 4 < E - P ∨ T 0 20 < lo ∨ hi < T 0 20 then (0, wrg T 2) else (T 0 20, T)) else (0, wrg T 1)
theorem wrg_23 {k : Int32} (h : ¬ k = 0) : ¬ wrg T k 0 23 = 0 := by unfold wrg; rw [up2_col (by decide), up2_same]; exact h
theorem X12_numberNow {L P E : Nat} (p : PMI T L P E) (h0' : T 0 23 = 0) (lo hi : Int32) (hb : gB G ≤ b) (hd : 1 ≤ d) : VM G mX12_numberNow d 0 0 [.ref (b + 0), .int lo, .int hi] (xE (some (.int (mNum T P E lo hi).1)) (wH G b tbM (mNum T P E lo hi).2 h0)) (wH G b tbM T h0) := by
  obtain ⟨a1, a2, a3, a4, a5, a6, a7, a8, a9⟩ := id p
  refine VM_start (ls := [some (.ref (b + 0)), some (.int lo), some (.int hi)]) rfl ?_
  unfold mNum
  -- %m X12_numberNow
  have bad : ∀ k : Int32, ¬ k = 0 → V G mX12_numberNow d 0 0 (xE (some (.int 0)) (wH G b tbM (wrg T k) h0)) 59 [some (.ref (b + 0)), some (.int lo), some (.int hi)] [] (wH G b tbM (wrg T k) h0) := by
    intro k hk
    refine V_aload_n (pc := 59) (i := 0) dX12_numberNow_59 rfl rfl ?_
    refine VW_getI (pc := 60) dX12_numberNow_60 fX12_192 (by first | assumption | rfl) rfl ?_
    refine V_if_ne (pc := 63) 73 dX12_numberNow_63 rfl (fun _ => ?_) (fun c => absurd c (wrg_23 hk))
    refine V_iconst (pc := 73) (v := 0) dX12_numberNow_73 (by decide) ?_
    exact VE_iret (pc := 74) dX12_numberNow_74 rfl rfl rfl
  refine V_aload_n (pc := 0) (i := 0) dX12_numberNow_0 rfl rfl ?_
  refine VW_getI (pc := 1) dX12_numberNow_1 fX12_192 (by first | assumption | rfl) rfl ?_
  refine V_if_eq (pc := 4) 9 dX12_numberNow_4 rfl (fun _ => ?_) (fun c => absurd h0' c)
  refine V_aload_n (pc := 9) (i := 0) dX12_numberNow_9 rfl rfl ?_
  refine VW_getI (pc := 10) dX12_numberNow_10 fX12_166 (by first | assumption | rfl) rfl ?_
  refine V_iconst (pc := 13) (v := 2) dX12_numberNow_13 (by decide) ?_
  refine V_icmp_eq (pc := 14) 25 dX12_numberNow_14 rfl (fun c14 => ?_) (fun c14 => ?_)
  · rw [if_pos c14]
    refine V_aload_n (pc := 25) (i := 0) dX12_numberNow_25 rfl rfl ?_
    refine VW_getI (pc := 26) dX12_numberNow_26 fX12_189 (by first | assumption | rfl) rfl ?_
    refine V_aload_n (pc := 29) (i := 0) dX12_numberNow_29 rfl rfl ?_
    refine VW_getI (pc := 30) dX12_numberNow_30 fX12_163 (by first | assumption | rfl) rfl ?_
    rw [a4, a5]
    refine V_isub (pc := 33) dX12_numberNow_33 ?_
    rw [pk_sub a6]
    refine V_iconst (pc := 34) (v := 4) dX12_numberNow_34 (by decide) ?_
    refine V_icmp_gt (pc := 35) 54 dX12_numberNow_35 rfl (fun c35 => ?_) (fun c35 => ?_)
    · have q : 4 < E - P := Nat.not_le.mp (fun q => nI_nlt (a := 4) q (by decide) c35)
      rw [if_pos (Or.inl q)]
      refine V_aload_n (pc := 54) (i := 0) dX12_numberNow_54 rfl rfl ?_
      refine V_iconst (pc := 55) (v := 2) dX12_numberNow_55 (by decide) ?_
      refine V_V1v (pc := 56) dX12_numberNow_56 cX12_213 (by first | assumption | rfl) (X12_wrong_ok (d := 0) h0' _ hb) (Nat.le_of_ble_eq_true rfl) (by omega) (Nat.le_of_ble_eq_true rfl) ?_
      exact bad 2 (by decide)
    · have q : ¬ 4 < E - P := fun q => c35 (nI_lt (a := 4) q (by omega))
      refine V_aload_n (pc := 38) (i := 0) dX12_numberNow_38 rfl rfl ?_
      refine VW_getI (pc := 39) dX12_numberNow_39 fX12_176 (by first | assumption | rfl) rfl ?_
      refine V_iload_n (pc := 42) (i := 1) dX12_numberNow_42 rfl rfl ?_
      refine V_icmp_lt (pc := 43) 54 dX12_numberNow_43 rfl (fun c43 => ?_) (fun c43 => ?_)
      · rw [if_pos (Or.inr (Or.inl c43))]
        refine V_aload_n (pc := 54) (i := 0) dX12_numberNow_54 rfl rfl ?_
        refine V_iconst (pc := 55) (v := 2) dX12_numberNow_55 (by decide) ?_
        refine V_V1v (pc := 56) dX12_numberNow_56 cX12_213 (by first | assumption | rfl) (X12_wrong_ok (d := 0) h0' _ hb) (Nat.le_of_ble_eq_true rfl) (by omega) (Nat.le_of_ble_eq_true rfl) ?_
        exact bad 2 (by decide)
      · refine V_aload_n (pc := 46) (i := 0) dX12_numberNow_46 rfl rfl ?_
        refine VW_getI (pc := 47) dX12_numberNow_47 fX12_176 (by first | assumption | rfl) rfl ?_
        refine V_iload_n (pc := 50) (i := 2) dX12_numberNow_50 rfl rfl ?_
        refine V_icmp_le (pc := 51) 59 dX12_numberNow_51 rfl (fun c51 => ?_) (fun c51 => ?_)
        · rw [if_neg (fun z => z.elim q (fun z => z.elim c43 (Int32.not_lt.mpr c51)))]
          refine V_aload_n (pc := 59) (i := 0) dX12_numberNow_59 rfl rfl ?_
          refine VW_getI (pc := 60) dX12_numberNow_60 fX12_192 (by first | assumption | rfl) rfl ?_
          refine V_if_ne (pc := 63) 73 dX12_numberNow_63 rfl (fun c => absurd h0' c) (fun _ => ?_)
          refine V_aload_n (pc := 66) (i := 0) dX12_numberNow_66 rfl rfl ?_
          refine VW_getI (pc := 67) dX12_numberNow_67 fX12_176 (by first | assumption | rfl) rfl ?_
          refine V_goto (pc := 70) 74 dX12_numberNow_70 rfl ?_
          exact VE_iret (pc := 74) dX12_numberNow_74 rfl rfl rfl
        · rw [if_pos (Or.inr (Or.inr (Int32.not_le.mp c51)))]
          refine V_aload_n (pc := 54) (i := 0) dX12_numberNow_54 rfl rfl ?_
          refine V_iconst (pc := 55) (v := 2) dX12_numberNow_55 (by decide) ?_
          refine V_V1v (pc := 56) dX12_numberNow_56 cX12_213 (by first | assumption | rfl) (X12_wrong_ok (d := 0) h0' _ hb) (Nat.le_of_ble_eq_true rfl) (by omega) (Nat.le_of_ble_eq_true rfl) ?_
          exact bad 2 (by decide)
  · rw [if_neg c14]
    refine V_aload_n (pc := 17) (i := 0) dX12_numberNow_17 rfl rfl ?_
    refine V_iconst (pc := 18) (v := 1) dX12_numberNow_18 (by decide) ?_
    refine V_V1v (pc := 19) dX12_numberNow_19 cX12_213 (by first | assumption | rfl) (X12_wrong_ok (d := 0) h0' _ hb) (Nat.le_of_ble_eq_true rfl) (by omega) (Nat.le_of_ble_eq_true rfl) ?_
    refine V_goto (pc := 22) 59 dX12_numberNow_22 rfl ?_
    exact bad 1 (by decide)
theorem X12_numberNow_bad (h0' : ¬ T 0 23 = 0) (lo hi : Int32) : VM G mX12_numberNow d 0 0 [.ref (b + 0), .int lo, .int hi] (xE (some (.int 0)) (wH G b tbM T h0)) (wH G b tbM T h0) := by
  refine VM_start (ls := [some (.ref (b + 0)), some (.int lo), some (.int hi)]) rfl ?_
  -- %m X12_numberNow
  refine V_aload_n (pc := 0) (i := 0) dX12_numberNow_0 rfl rfl ?_
  refine VW_getI (pc := 1) dX12_numberNow_1 fX12_192 (by first | assumption | rfl) rfl ?_
  refine V_if_eq (pc := 4) 9 dX12_numberNow_4 rfl (fun c => absurd c h0') (fun _ => ?_)
  refine V_iconst (pc := 7) (v := 0) dX12_numberNow_7 (by decide) ?_
  exact VE_iret (pc := 8) dX12_numberNow_8 rfl rfl rfl
theorem X12_readNumber_bad (h0' : ¬ T 0 23 = 0) (lo hi : Int32) (hd : 1 ≤ d) : VM G mX12_readNumber d 0 0 [.ref (b + 0), .int lo, .int hi] (xE (some (.int 0)) (wH G b tbM T h0)) (wH G b tbM T h0) := by
  refine VM_start (ls := [some (.ref (b + 0)), some (.int lo), some (.int hi), none]) rfl ?_
  -- %m X12_readNumber
  refine V_aload_n (pc := 0) (i := 0) dX12_readNumber_0 rfl rfl ?_
  refine V_iload_n (pc := 1) (i := 1) dX12_readNumber_1 rfl rfl ?_
  refine V_iload_n (pc := 2) (i := 2) dX12_readNumber_2 rfl rfl ?_
  refine V_V2i (pc := 3) dX12_readNumber_3 cX12_220 (by first | assumption | rfl) (X12_numberNow_bad (d := 0) h0' _ _) (Nat.le_of_ble_eq_true rfl) (by omega) (Nat.le_of_ble_eq_true rfl) ?_
  refine V_istore_n (pc := 6) (i := 3) dX12_readNumber_6 rfl (by decide) rfl ?_
  refine V_aload_n (pc := 7) (i := 0) dX12_readNumber_7 rfl rfl ?_
  refine VW_getI (pc := 8) dX12_readNumber_8 fX12_192 (by first | assumption | rfl) rfl ?_
  refine V_if_ne (pc := 11) 18 dX12_readNumber_11 rfl (fun _ => ?_) (fun c => absurd c h0')
  refine V_iload_n (pc := 18) (i := 3) dX12_readNumber_18 rfl rfl ?_
  exact VE_iret (pc := 19) dX12_readNumber_19 rfl rfl rfl
/-- .. and gone over -/
def mRd (T : Nat → Nat → Int32) (L P E : Nat) (lo hi : Int32) : Int32 × (Nat → Nat → Int32) := if T 0 19 = 2 then (if 4 < E - P ∨ T 0 20 < lo ∨ hi < T 0 20 then (0, wrg T 2) else (T 0 20, mStep T L E)) else (0, wrg T 1)
theorem X12_readNumber {L P E : Nat} (p : PMI T L P E) (h0' : T 0 23 = 0) (lo hi : Int32) (hb : gB G ≤ b) (hd : 2 ≤ d) : VM G mX12_readNumber d 0 0 [.ref (b + 0), .int lo, .int hi] (xE (some (.int (mRd T L P E lo hi).1)) (wH G b tbM (mRd T L P E lo hi).2 h0)) (wH G b tbM T h0) := by
  refine VM_start (ls := [some (.ref (b + 0)), some (.int lo), some (.int hi), none]) rfl ?_
  have k := X12_numberNow (G := G) (d := 1) (b := b) (h0 := h0) p h0' lo hi hb (by omega)
  unfold mNum at k
  unfold mRd
  -- %m X12_readNumber
  by_cases c1 : T 0 19 = 2
  · rw [if_pos c1] at k ⊢
    by_cases c2 : 4 < E - P ∨ T 0 20 < lo ∨ hi < T 0 20
    · rw [if_pos c2] at k ⊢
      refine V_aload_n (pc := 0) (i := 0) dX12_readNumber_0 rfl rfl ?_
      refine V_iload_n (pc := 1) (i := 1) dX12_readNumber_1 rfl rfl ?_
      refine V_iload_n (pc := 2) (i := 2) dX12_readNumber_2 rfl rfl ?_
      refine V_V2i (pc := 3) dX12_readNumber_3 cX12_220 (by first | assumption | rfl) k (Nat.le_of_ble_eq_true rfl) (by omega) (Nat.le_of_ble_eq_true rfl) ?_
      refine V_istore_n (pc := 6) (i := 3) dX12_readNumber_6 rfl (by decide) rfl ?_
      refine V_aload_n (pc := 7) (i := 0) dX12_readNumber_7 rfl rfl ?_
      refine VW_getI (pc := 8) dX12_readNumber_8 fX12_192 (by first | assumption | rfl) rfl ?_
      refine V_if_ne (pc := 11) 18 dX12_readNumber_11 rfl (fun _ => ?_) (fun c => absurd c (wrg_23 (T := T) (k := 2) (by decide)))
      refine V_iload_n (pc := 18) (i := 3) dX12_readNumber_18 rfl rfl ?_
      exact VE_iret (pc := 19) dX12_readNumber_19 rfl rfl rfl
    · rw [if_neg c2] at k ⊢
      refine V_aload_n (pc := 0) (i := 0) dX12_readNumber_0 rfl rfl ?_
      refine V_iload_n (pc := 1) (i := 1) dX12_readNumber_1 rfl rfl ?_
      refine V_iload_n (pc := 2) (i := 2) dX12_readNumber_2 rfl rfl ?_
      refine V_V2i (pc := 3) dX12_readNumber_3 cX12_220 (by first | assumption | rfl) k (Nat.le_of_ble_eq_true rfl) (by omega) (Nat.le_of_ble_eq_true rfl) ?_
      refine V_istore_n (pc := 6) (i := 3) dX12_readNumber_6 rfl (by decide) rfl ?_
      refine V_aload_n (pc := 7) (i := 0) dX12_readNumber_7 rfl rfl ?_
      refine VW_getI (pc := 8) dX12_readNumber_8 fX12_192 (by first | assumption | rfl) rfl ?_
      refine V_if_ne (pc := 11) 18 dX12_readNumber_11 rfl (fun c => absurd h0' c) (fun _ => ?_)
      refine V_aload_n (pc := 14) (i := 0) dX12_readNumber_14 rfl rfl ?_
      refine V_V0v (pc := 15) dX12_readNumber_15 cX12_217 (by first | assumption | rfl) (X12_step (d := 1) p hb (by omega)) (Nat.le_of_ble_eq_true rfl) (by omega) (Nat.le_of_ble_eq_true rfl) ?_
      refine V_iload_n (pc := 18) (i := 3) dX12_readNumber_18 rfl rfl ?_
      exact VE_iret (pc := 19) dX12_readNumber_19 rfl rfl rfl
  · rw [if_neg c1] at k ⊢
    refine V_aload_n (pc := 0) (i := 0) dX12_readNumber_0 rfl rfl ?_
    refine V_iload_n (pc := 1) (i := 1) dX12_readNumber_1 rfl rfl ?_
    refine V_iload_n (pc := 2) (i := 2) dX12_readNumber_2 rfl rfl ?_
    refine V_V2i (pc := 3) dX12_readNumber_3 cX12_220 (by first | assumption | rfl) k (Nat.le_of_ble_eq_true rfl) (by omega) (Nat.le_of_ble_eq_true rfl) ?_
    refine V_istore_n (pc := 6) (i := 3) dX12_readNumber_6 rfl (by decide) rfl ?_
    refine V_aload_n (pc := 7) (i := 0) dX12_readNumber_7 rfl rfl ?_
    refine VW_getI (pc := 8) dX12_readNumber_8 fX12_192 (by first | assumption | rfl) rfl ?_
    refine V_if_ne (pc := 11) 18 dX12_readNumber_11 rfl (fun _ => ?_) (fun c => absurd c (wrg_23 (T := T) (k := 1) (by decide)))
    refine V_iload_n (pc := 18) (i := 3) dX12_readNumber_18 rfl rfl ?_
    exact VE_iret (pc := 19) dX12_readNumber_19 rfl rfl rfl
/-- a sign is laid -/
def layS (T : Nat → Nat → Int32) (r : Nat) (x : Int32) : Nat → Nat → Int32 := up2 (up2 T 13 (700 + r) x) 3 7 (nI (r + 1))
theorem X12_lay {r : Nat} (hr : T 3 7 = nI r) (h7 : r < 700) (h0' : T 0 23 = 0) (x : Int32) (hb : gB G ≤ b) : VM G mX12_lay d 0 0 [.ref (b + 0), .int x] (xE none (wH G b tbM (layS T r x) h0)) (wH G b tbM T h0) := by
  refine VM_start (ls := [some (.ref (b + 0)), some (.int x)]) rfl ?_
  unfold layS
  -- %m X12_lay
  refine V_aload_n (pc := 0) (i := 0) dX12_lay_0 rfl rfl ?_
  refine VW_getI (pc := 1) dX12_lay_1 fX12_192 (by first | assumption | rfl) rfl ?_
  refine V_if_eq (pc := 4) 8 dX12_lay_4 rfl (fun c4 => ?_) (fun c4 => ?_)
  · refine V_aload_n (pc := 8) (i := 0) dX12_lay_8 rfl rfl ?_
    refine VW_getR (pc := 9) dX12_lay_9 fX12_67 (by first | assumption | rfl) rfl ?_
    refine V_sipush (pc := 12) (v := 700) dX12_lay_12 (by decide) ?_
    refine V_aload_n (pc := 15) (i := 0) dX12_lay_15 rfl rfl ?_
    refine VW_getR (pc := 16) dX12_lay_16 fX12_36 (by first | assumption | rfl) rfl ?_
    refine V_bipush (pc := 19) (v := 7) dX12_lay_19 (by decide) ?_
    refine VW_ialdN (pc := 21) dX12_lay_21 (by first | assumption | rfl) (j := 7) rfl (by decide) (by first | decide | omega) ?_
    rw [hr]
    refine V_iadd (pc := 22) dX12_lay_22 ?_
    refine V_iload_n (pc := 23) (i := 1) dX12_lay_23 rfl rfl ?_
    refine VW_iastN (pc := 24) dX12_lay_24 (by first | assumption | rfl) (by assumption) (j := 700 + r) (nI_add 700 r) (by omega) (by first | decide | omega) ?_
    refine V_aload_n (pc := 25) (i := 0) dX12_lay_25 rfl rfl ?_
    refine VW_getR (pc := 26) dX12_lay_26 fX12_36 (by first | assumption | rfl) rfl ?_
    refine V_bipush (pc := 29) (v := 7) dX12_lay_29 (by decide) ?_
    refine V_dup2 (pc := 31) dX12_lay_31 rfl rfl ?_
    refine VW_ialdN (pc := 32) dX12_lay_32 (by first | assumption | rfl) (j := 7) rfl (by decide) (by first | decide | omega) ?_
    rw [up2_row (by decide), hr]
    refine V_iconst (pc := 33) (v := 1) dX12_lay_33 (by decide) ?_
    refine V_iadd (pc := 34) dX12_lay_34 ?_
    rw [nI_1]
    refine VW_iastN (pc := 35) dX12_lay_35 (by first | assumption | rfl) (by assumption) (j := 7) rfl (by decide) (by first | decide | omega) ?_
    exact VE_vret (pc := 36) dX12_lay_36 rfl rfl
  · exact absurd h0' c4
theorem X12_lay_bad (h0' : ¬ T 0 23 = 0) (x : Int32) : VM G mX12_lay d 0 0 [.ref (b + 0), .int x] (xE none (wH G b tbM T h0)) (wH G b tbM T h0) := by
  refine VM_start (ls := [some (.ref (b + 0)), some (.int x)]) rfl ?_
  -- %m X12_lay
  refine V_aload_n (pc := 0) (i := 0) dX12_lay_0 rfl rfl ?_
  refine VW_getI (pc := 1) dX12_lay_1 fX12_192 (by first | assumption | rfl) rfl ?_
  refine V_if_eq (pc := 4) 8 dX12_lay_4 rfl (fun c4 => ?_) (fun c4 => ?_)
  · exact absurd c4 h0'
  · exact VE_vret (pc := 7) dX12_lay_7 rfl rfl
theorem VW_alenS {k n t : Nat} {v : Int32} (dg : decode M.2.1 pc = .ok (.arraylength, 1)) (hk : tbM[k]? = some (.inl (t, n))) (ht : ¬ t < 4) (hv : Int32.ofNat n = v) (kk : V G M d bc bs Q (pc + 1) ls (.int v :: st) (wH G b tbM S h0)) : V G M d bc bs Q pc ls (.ref (b + k) :: st) (wH G b tbM S h0) :=
  V_alen (n := n) dg (by rw [wH_at hk, cellE, if_neg ht]) (by decide) hv kk
/-- which of words: k-th from k on -/
theorem X12_which1 {kc N t k L P E : Nat} {q : String × Nat × String × List Int32} {Q : xR → xH → Prop} (hk : tbM[kc]? = some (.inl (t, N))) (ht : ¬ t < 4) (hi : xStr[t - 4 + k]? = some q) (hkN : k < N) (hN : N < 100) (p : PMI T L P E) (h0' : T 0 23 = 0) (hd : 5 ≤ d) (ky : mWrd T L P E q.2.2.2 = true → Q (.inl (some (.int (nI k)))) (wH G b tbM T h0)) (kn : mWrd T L P E q.2.2.2 = false → V G mX12_which d 0 0 Q 2 [some (.ref (b + 0)), some (.ref (b + kc)), some (.int (nI (k + 1)))] [] (wH G b tbM T h0)) : V G mX12_which d 0 0 Q 2 [some (.ref (b + 0)), some (.ref (b + kc)), some (.int (nI k))] [] (wH G b tbM T h0) := by
  -- %m X12_which
  refine V_iload_n (pc := 2) (i := 2) dX12_which_2 rfl rfl ?_
  refine V_aload_n (pc := 3) (i := 1) dX12_which_3 rfl rfl ?_
  refine VW_alenS (pc := 4) dX12_which_4 hk ht rfl ?_
  refine V_icmp_ge (pc := 5) 26 dX12_which_5 rfl (fun c => absurd c (nI_ge (b := N) (by omega) (by omega))) (fun _ => ?_)
  refine V_aload_n (pc := 8) (i := 0) dX12_which_8 rfl rfl ?_
  refine V_aload_n (pc := 9) (i := 1) dX12_which_9 rfl rfl ?_
  refine V_iload_n (pc := 10) (i := 2) dX12_which_10 rfl rfl ?_
  refine VW_aald (pc := 11) dX12_which_11 hk ht (vp_in_nI hkN (by omega)) ?_
  rw [nI_clamp (by omega)]
  refine V_V1i (pc := 12) dX12_which_12 cX12_206 (by first | assumption | rfl) (X12_is (d := 4) hi p h0' (by omega)) (Nat.le_of_ble_eq_true rfl) (by omega) (Nat.le_of_ble_eq_true rfl) ?_
  refine V_if_eq (pc := 15) 20 dX12_which_15 rfl (fun c15 => ?_) (fun c15 => ?_)
  · refine V_iinc (pc := 20) dX12_which_20 (by decide) rfl rfl (iincN (n := 1) (by decide)) ?_
    refine V_goto (pc := 23) 2 dX12_which_23 rfl ?_
    exact kn (b2i_0.mp c15)
  · refine V_iload_n (pc := 18) (i := 2) dX12_which_18 rfl rfl ?_
    exact V_iret (pc := 19) dX12_which_19 rfl (ky (b2i_n0.mp c15))
theorem X12_which0 {kc N t : Nat} {Q : xR → xH → Prop} (hk : tbM[kc]? = some (.inl (t, N))) (ht : ¬ t < 4) (hN : N < 100) (ky : Q (.inl (some (.int (-1)))) (wH G b tbM T h0)) : V G mX12_which d 0 0 Q 2 [some (.ref (b + 0)), some (.ref (b + kc)), some (.int (nI N))] [] (wH G b tbM T h0) := by
  -- %m X12_which
  refine V_iload_n (pc := 2) (i := 2) dX12_which_2 rfl rfl ?_
  refine V_aload_n (pc := 3) (i := 1) dX12_which_3 rfl rfl ?_
  refine VW_alenS (pc := 4) dX12_which_4 hk ht rfl ?_
  refine V_icmp_ge (pc := 5) 26 dX12_which_5 rfl (fun _ => ?_) (fun c => absurd (nI_le (a := N) (Nat.le_refl _) (by omega)) c)
  refine V_iconst (pc := 26) (v := -1) dX12_which_26 (by decide) ?_
  exact V_iret (pc := 27) dX12_which_27 rfl ky
theorem xE_ok {v r' : Option Value} {h1 : xH} (hv : r' = v) : xE v h1 (.inl r') h1 := ⟨by rw [hv], rfl⟩
/-- if, unless -/
def mCd (T : Nat → Nat → Int32) (L P E : Nat) : Int32 := if mWrd T L P E lIf then 0 else if mWrd T L P E lUnless then 1 else -1
theorem X12_whichC {L P E : Nat} (p : PMI T L P E) (h0' : T 0 23 = 0) (hd : 5 ≤ d) : VM G mX12_which d 0 0 [.ref (b + 0), .ref (b + 1)] (xE (some (.int (mCd T L P E))) (wH G b tbM T h0)) (wH G b tbM T h0) := by
  refine VM_start (ls := [some (.ref (b + 0)), some (.ref (b + 1)), none]) rfl ?_
  unfold mCd
  -- %m X12_which
  refine V_iconst (pc := 0) (v := 0) dX12_which_0 (by decide) ?_
  refine V_istore_n (pc := 1) (i := 2) dX12_which_1 rfl (by decide) rfl ?_
  refine X12_which1 (kc := 1) (N := 2) (t := 30) (k := 0) rfl (by decide) rfl (by decide) (by decide) p h0' hd (fun w => xE_ok (by rw [if_pos (show mWrd T L P E lIf = true from w)]; rfl)) (fun w => ?_)
  refine X12_which1 (kc := 1) (N := 2) (t := 30) (k := 1) rfl (by decide) rfl (by decide) (by decide) p h0' hd (fun w2 => xE_ok (by rw [if_neg (by rw [show mWrd T L P E lIf = false from w]; decide), if_pos (show mWrd T L P E lUnless = true from w2)]; rfl)) (fun w2 => ?_)
  exact X12_which0 (kc := 1) (N := 2) (t := 30) rfl (by decide) (by decide) (xE_ok (by rw [if_neg (by rw [show mWrd T L P E lIf = false from w]; decide), if_neg (by rw [show mWrd T L P E lUnless = false from w2]; decide)]))
/-- the VALUE that is named here -/
def mVl (T : Nat → Nat → Int32) (L P E : Nat) : Int32 := if mWrd T L P E lLonging then 0 else if mWrd T L P E lHere then 1 else if mWrd T L P E lThere then 2 else if mWrd T L P E lSpared then 3 else if mWrd T L P E lSunday then 4 else if mWrd T L P E lFlowers then 5 else if mWrd T L P E lLast then 6 else -1
theorem X12_whichV {L P E : Nat} (p : PMI T L P E) (h0' : T 0 23 = 0) (hd : 5 ≤ d) : VM G mX12_which d 0 0 [.ref (b + 0), .ref (b + 2)] (xE (some (.int (mVl T L P E))) (wH G b tbM T h0)) (wH G b tbM T h0) := by
  refine VM_start (ls := [some (.ref (b + 0)), some (.ref (b + 2)), none]) rfl ?_
  unfold mVl
  -- %m X12_which
  refine V_iconst (pc := 0) (v := 0) dX12_which_0 (by decide) ?_
  refine V_istore_n (pc := 1) (i := 2) dX12_which_1 rfl (by decide) rfl ?_
  refine X12_which1 (kc := 2) (N := 7) (t := 32) (k := 0) rfl (by decide) rfl (by decide) (by decide) p h0' hd (fun w => xE_ok (by rw [if_pos (show mWrd T L P E lLonging = true from w)]; rfl)) (fun w => ?_)
  rw [if_neg (by rw [show mWrd T L P E lLonging = false from w]; decide)]
  refine X12_which1 (kc := 2) (N := 7) (t := 32) (k := 1) rfl (by decide) rfl (by decide) (by decide) p h0' hd (fun w => xE_ok (by rw [if_pos (show mWrd T L P E lHere = true from w)]; rfl)) (fun w => ?_)
  rw [if_neg (by rw [show mWrd T L P E lHere = false from w]; decide)]
  refine X12_which1 (kc := 2) (N := 7) (t := 32) (k := 2) rfl (by decide) rfl (by decide) (by decide) p h0' hd (fun w => xE_ok (by rw [if_pos (show mWrd T L P E lThere = true from w)]; rfl)) (fun w => ?_)
  rw [if_neg (by rw [show mWrd T L P E lThere = false from w]; decide)]
  refine X12_which1 (kc := 2) (N := 7) (t := 32) (k := 3) rfl (by decide) rfl (by decide) (by decide) p h0' hd (fun w => xE_ok (by rw [if_pos (show mWrd T L P E lSpared = true from w)]; rfl)) (fun w => ?_)
  rw [if_neg (by rw [show mWrd T L P E lSpared = false from w]; decide)]
  refine X12_which1 (kc := 2) (N := 7) (t := 32) (k := 4) rfl (by decide) rfl (by decide) (by decide) p h0' hd (fun w => xE_ok (by rw [if_pos (show mWrd T L P E lSunday = true from w)]; rfl)) (fun w => ?_)
  rw [if_neg (by rw [show mWrd T L P E lSunday = false from w]; decide)]
  refine X12_which1 (kc := 2) (N := 7) (t := 32) (k := 5) rfl (by decide) rfl (by decide) (by decide) p h0' hd (fun w => xE_ok (by rw [if_pos (show mWrd T L P E lFlowers = true from w)]; rfl)) (fun w => ?_)
  rw [if_neg (by rw [show mWrd T L P E lFlowers = false from w]; decide)]
  refine X12_which1 (kc := 2) (N := 7) (t := 32) (k := 6) rfl (by decide) rfl (by decide) (by decide) p h0' hd (fun w => xE_ok (by rw [if_pos (show mWrd T L P E lLast = true from w)]; rfl)) (fun w => ?_)
  rw [if_neg (by rw [show mWrd T L P E lLast = false from w]; decide)]
  exact X12_which0 (kc := 2) (N := 7) (t := 32) rfl (by decide) (by decide) (xE_ok rfl)
end P2
