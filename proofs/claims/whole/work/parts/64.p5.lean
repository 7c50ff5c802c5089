/-! ===== both readers side by side: the model's rows ===== -/
section P5
variable {G : xG} {d : Nat} {b : Nat} {S S1 S2 S3 T T1 T2 T3 U Z : Nat → Nat → Int32} {h0 h : xH} {t w : Nat}
theorem V_ldcSW {M : xM} {bc bs pc : Nat} {ls : List (Option Value)} {st : List Value} {Q : xR → xH → Prop} {idx i : Nat} {tx : String} {bs0 : List Int32} (dg : decode M.2.1 pc = .ok (.ldc_w idx, 3)) (hw : xStr[i]? = some (M.1.cls, idx, tx, bs0)) (k : V G M d bc bs Q (pc + 3) ls (.ref (gK G i) :: st) h) : V G M d bc bs Q pc ls st h := by
  intro p e R s m args below meth c H locs cells slots la C hP hS hl h1 h2 T hT X
  obtain ⟨t, a1, b1⟩ := k p e R s m args below meth c H locs cells slots la C hP hS hl h1 h2 T hT X
  have hZ := (C.w.2.2.2.1 i _ hw).1
  exact ⟨t, X.ldcStringW C.x C.own (text := tx) (a := gK G i) hZ.1 hZ.2 (g := F0 m pc la st) rfl (by rw [C.b]; exact dg) t a1, b1⟩
theorem pair_if (R : Bool × (Nat → Nat → Int32)) : (if R.1 = true then (true, R.2) else (false, R.2)) = R := by
  obtain ⟨c, s⟩ := R
  cases c <;> rfl
theorem rowR_0 {lv k : Nat} {R : (Nat → Nat → Int32) → Bool × (Nat → Nat → Int32)} : rowR t lv R k (0, S) = if (R S).1 then opsF t lv R k (R S).2 else (false, (R S).2) := by
  unfold rowR
  rw [if_neg (show ¬ (0 : Int32) = -1 by decide)]
  show (if (R S).1 then (if (opsF t lv R k (R S).2).1 then (true, (opsF t lv R k (R S).2).2) else (false, (opsF t lv R k (R S).2).2)) else (false, (R S).2)) = _
  rw [pair_if]
theorem X12_readPart_bad (h0' : ¬ T 0 23 = 0) (x : Int32) : VM G mX12_readPart d 0 0 [.ref (b + 0), .int x] (xE none (wH G b tbM T h0)) (wH G b tbM T h0) := by
  refine VM_start (ls := [some (.ref (b + 0)), some (.int x), none]) rfl ?_
  -- %m X12_readPart
  refine V_aload_n (pc := 0) (i := 0) dX12_readPart_0 rfl rfl ?_
  refine VW_getI (pc := 1) dX12_readPart_1 fX12_192 (by first | assumption | rfl) rfl ?_
  refine V_if_eq (pc := 4) 8 dX12_readPart_4 rfl (fun c => absurd c h0') (fun _ => ?_)
  exact VE_vret (pc := 7) dX12_readPart_7 rfl rfl
theorem X12_readProduct_bad (h0' : ¬ T 0 23 = 0) (x : Int32) (hd : 1 ≤ d) : VM G mX12_readProduct d 0 0 [.ref (b + 0), .int x] (xE none (wH G b tbM T h0)) (wH G b tbM T h0) := by
  refine VM_start (ls := [some (.ref (b + 0)), some (.int x), none]) rfl ?_
  -- %m X12_readProduct
  refine V_aload_n (pc := 0) (i := 0) dX12_readProduct_0 rfl rfl ?_
  refine V_iload_n (pc := 1) (i := 1) dX12_readProduct_1 rfl rfl ?_
  refine V_V1v (pc := 2) dX12_readProduct_2 cX12_239 (by first | assumption | rfl) (X12_readPart_bad (d := 0) h0' _) (Nat.le_of_ble_eq_true rfl) (by omega) (Nat.le_of_ble_eq_true rfl) ?_
  refine V_aload_n (pc := 5) (i := 0) dX12_readProduct_5 rfl rfl ?_
  refine V_bipush (pc := 6) (v := 42) dX12_readProduct_6 (by decide) ?_
  refine V_V1i (pc := 8) dX12_readProduct_8 cX12_210 (by first | assumption | rfl) (X12_isMarked_bad (d := 0) h0' _) (Nat.le_of_ble_eq_true rfl) (by omega) (Nat.le_of_ble_eq_true rfl) ?_
  refine V_if_ne (pc := 11) 23 dX12_readProduct_11 rfl (fun c => absurd rfl c) (fun _ => ?_)
  refine V_aload_n (pc := 14) (i := 0) dX12_readProduct_14 rfl rfl ?_
  refine V_bipush (pc := 15) (v := 47) dX12_readProduct_15 (by decide) ?_
  refine V_V1i (pc := 17) dX12_readProduct_17 cX12_210 (by first | assumption | rfl) (X12_isMarked_bad (d := 0) h0' _) (Nat.le_of_ble_eq_true rfl) (by omega) (Nat.le_of_ble_eq_true rfl) ?_
  refine V_if_eq (pc := 20) 57 dX12_readProduct_20 rfl (fun _ => ?_) (fun c => absurd rfl c)
  exact VE_vret (pc := 57) dX12_readProduct_57 rfl rfl
theorem X12_readSum_bad (h0' : ¬ T 0 23 = 0) (x : Int32) (hd : 2 ≤ d) : VM G mX12_readSum d 0 0 [.ref (b + 0), .int x] (xE none (wH G b tbM T h0)) (wH G b tbM T h0) := by
  refine VM_start (ls := [some (.ref (b + 0)), some (.int x), none]) rfl ?_
  -- %m X12_readSum
  refine V_aload_n (pc := 0) (i := 0) dX12_readSum_0 rfl rfl ?_
  refine V_iload_n (pc := 1) (i := 1) dX12_readSum_1 rfl rfl ?_
  refine V_V1v (pc := 2) dX12_readSum_2 cX12_242 (by first | assumption | rfl) (X12_readProduct_bad (d := 1) h0' _ (by omega)) (Nat.le_of_ble_eq_true rfl) (by omega) (Nat.le_of_ble_eq_true rfl) ?_
  refine V_aload_n (pc := 5) (i := 0) dX12_readSum_5 rfl rfl ?_
  refine V_bipush (pc := 6) (v := 43) dX12_readSum_6 (by decide) ?_
  refine V_V1i (pc := 8) dX12_readSum_8 cX12_210 (by first | assumption | rfl) (X12_isMarked_bad (d := 0) h0' _) (Nat.le_of_ble_eq_true rfl) (by omega) (Nat.le_of_ble_eq_true rfl) ?_
  refine V_if_ne (pc := 11) 23 dX12_readSum_11 rfl (fun c => absurd rfl c) (fun _ => ?_)
  refine V_aload_n (pc := 14) (i := 0) dX12_readSum_14 rfl rfl ?_
  refine V_bipush (pc := 15) (v := 45) dX12_readSum_15 (by decide) ?_
  refine V_V1i (pc := 17) dX12_readSum_17 cX12_210 (by first | assumption | rfl) (X12_isMarked_bad (d := 0) h0' _) (Nat.le_of_ble_eq_true rfl) (by omega) (Nat.le_of_ble_eq_true rfl) ?_
  refine V_if_eq (pc := 20) 57 dX12_readSum_20 rfl (fun _ => ?_) (fun c => absurd rfl c)
  exact VE_vret (pc := 57) dX12_readSum_57 rfl rfl
/-- the end of a NOT row, bad -/
theorem X12_readNot_end {k j : Nat} (h0' : ¬ T 0 23 = 0) (x : Int32) (z : Option Value) (hk : k ≤ 7) (hd : 3 ≤ d) {Q : xR → xH → Prop} (hq : Q (.inl none) (wH G b tbM T h0)) : ∀ (m j : Nat), m + j = k → V G mX12_readNot d 0 0 Q 95 [some (.ref (b + 0)), some (.int x), some (.int (nI k)), some (.int (nI j))] [] (wH G b tbM T h0) := by
  intro m
  -- %m X12_readNot
  induction m with
  | zero =>
    intro j hm
    refine V_iload_n (pc := 95) (i := 3) dX12_readNot_95 rfl rfl ?_
    refine V_iload_n (pc := 96) (i := 2) dX12_readNot_96 rfl rfl ?_
    refine V_icmp_ge (pc := 97) 112 dX12_readNot_97 rfl (fun c97 => ?_) (fun c97 => ?_)
    · exact V_vret (pc := 112) dX12_readNot_112 rfl hq
    · exact absurd (nI_le (by omega) (by omega)) c97
  | succ m ih =>
    intro j hm
    refine V_iload_n (pc := 95) (i := 3) dX12_readNot_95 rfl rfl ?_
    refine V_iload_n (pc := 96) (i := 2) dX12_readNot_96 rfl rfl ?_
    refine V_icmp_ge (pc := 97) 112 dX12_readNot_97 rfl (fun c97 => ?_) (fun c97 => ?_)
    · exact absurd c97 (nI_ge (by omega) (by omega))
    · refine V_aload_n (pc := 100) (i := 0) dX12_readNot_100 rfl rfl ?_
      refine V_bipush (pc := 101) (v := -28) dX12_readNot_101 (by decide) ?_
      refine V_V1v (pc := 103) dX12_readNot_103 cX12_226 (by first | assumption | rfl) (X12_lay_bad (d := 0) h0' _) (Nat.le_of_ble_eq_true rfl) (by omega) (Nat.le_of_ble_eq_true rfl) ?_
      refine V_iinc (pc := 106) dX12_readNot_106 (by decide) rfl rfl (iincN (n := 1) (by decide)) ?_
      refine V_goto (pc := 109) 95 dX12_readNot_109 rfl ?_
      exact ih (j + 1) (by omega)
theorem X12_readNot_39 {k : Nat} (h0' : ¬ T 0 23 = 0) (x : Int32) (hk : k ≤ 7) (hd : 3 ≤ d) {Q : xR → xH → Prop} (hq : Q (.inl none) (wH G b tbM T h0)) : V G mX12_readNot d 0 0 Q 39 [some (.ref (b + 0)), some (.int x), some (.int (nI k)), none] [] (wH G b tbM T h0) := by
  -- %m X12_readNot
  refine V_aload_n (pc := 39) (i := 0) dX12_readNot_39 rfl rfl ?_
  refine V_iload_n (pc := 40) (i := 1) dX12_readNot_40 rfl rfl ?_
  refine V_V1v (pc := 41) dX12_readNot_41 cX12_247 (by first | assumption | rfl) (X12_readSum_bad (d := 2) h0' _ (by omega)) (Nat.le_of_ble_eq_true rfl) (by omega) (Nat.le_of_ble_eq_true rfl) ?_
  refine V_aload_n (pc := 44) (i := 0) dX12_readNot_44 rfl rfl ?_
  refine V_bipush (pc := 45) (v := 60) dX12_readNot_45 (by decide) ?_
  refine V_V1i (pc := 47) dX12_readNot_47 cX12_210 (by first | assumption | rfl) (X12_isMarked_bad (d := 0) h0' _) (Nat.le_of_ble_eq_true rfl) (by omega) (Nat.le_of_ble_eq_true rfl) ?_
  refine V_if_ne (pc := 50) 62 dX12_readNot_50 rfl (fun c => absurd rfl c) (fun _ => ?_)
  refine V_aload_n (pc := 53) (i := 0) dX12_readNot_53 rfl rfl ?_
  refine V_bipush (pc := 54) (v := 61) dX12_readNot_54 (by decide) ?_
  refine V_V1i (pc := 56) dX12_readNot_56 cX12_210 (by first | assumption | rfl) (X12_isMarked_bad (d := 0) h0' _) (Nat.le_of_ble_eq_true rfl) (by omega) (Nat.le_of_ble_eq_true rfl) ?_
  refine V_if_eq (pc := 59) 93 dX12_readNot_59 rfl (fun _ => ?_) (fun c => absurd rfl c)
  refine V_iconst (pc := 93) (v := 0) dX12_readNot_93 (by decide) ?_
  refine V_istore_n (pc := 94) (i := 3) dX12_readNot_94 rfl (by decide) rfl ?_
  exact X12_readNot_end (j := 0) h0' x none hk hd hq k 0 rfl
theorem X12_readNot_bad (h0' : ¬ T 0 23 = 0) (x : Int32) (hd : 3 ≤ d) : VM G mX12_readNot d 0 0 [.ref (b + 0), .int x] (xE none (wH G b tbM T h0)) (wH G b tbM T h0) := by
  refine VM_start (ls := [some (.ref (b + 0)), some (.int x), none, none]) rfl ?_
  -- %m X12_readNot
  refine V_iconst (pc := 0) (v := 0) dX12_readNot_0 (by decide) ?_
  refine V_istore_n (pc := 1) (i := 2) dX12_readNot_1 rfl (by decide) rfl ?_
  refine V_aload_n (pc := 2) (i := 0) dX12_readNot_2 rfl rfl ?_
  refine V_ldcS (pc := 3) (i := 37) dX12_readNot_3 rfl ?_
  refine V_V1i (pc := 5) dX12_readNot_5 cX12_206 (by first | assumption | rfl) (X12_is_bad (d := 0) h0') (Nat.le_of_ble_eq_true rfl) (by omega) (Nat.le_of_ble_eq_true rfl) ?_
  refine V_if_eq (pc := 8) 39 dX12_readNot_8 rfl (fun _ => ?_) (fun c => absurd rfl c)
  exact X12_readNot_39 (k := 0) h0' x (by decide) hd ⟨rfl, rfl⟩
theorem X12_readAnd_bad (h0' : ¬ T 0 23 = 0) (x : Int32) (hd : 4 ≤ d) : VM G mX12_readAnd d 0 0 [.ref (b + 0), .int x] (xE none (wH G b tbM T h0)) (wH G b tbM T h0) := by
  refine VM_start (ls := [some (.ref (b + 0)), some (.int x)]) rfl ?_
  -- %m X12_readAnd
  refine V_aload_n (pc := 0) (i := 0) dX12_readAnd_0 rfl rfl ?_
  refine V_iload_n (pc := 1) (i := 1) dX12_readAnd_1 rfl rfl ?_
  refine V_V1v (pc := 2) dX12_readAnd_2 cX12_250 (by first | assumption | rfl) (X12_readNot_bad (d := 3) h0' _ (by omega)) (Nat.le_of_ble_eq_true rfl) (by omega) (Nat.le_of_ble_eq_true rfl) ?_
  refine V_aload_n (pc := 5) (i := 0) dX12_readAnd_5 rfl rfl ?_
  refine V_ldcS (pc := 6) (i := 38) dX12_readAnd_6 rfl ?_
  refine V_V1i (pc := 8) dX12_readAnd_8 cX12_206 (by first | assumption | rfl) (X12_is_bad (d := 0) h0') (Nat.le_of_ble_eq_true rfl) (by omega) (Nat.le_of_ble_eq_true rfl) ?_
  refine V_if_eq (pc := 11) 32 dX12_readAnd_11 rfl (fun _ => ?_) (fun c => absurd rfl c)
  exact VE_vret (pc := 32) dX12_readAnd_32 rfl rfl
theorem X12_readExpression_67 (h0' : ¬ T 0 23 = 0) (x z : Int32) {Q : xR → xH → Prop} (hq : Q (.inl none) (wH G b tbM T h0)) (hd : 1 ≤ d) : V G mX12_readExpression d 0 0 Q 67 [some (.ref (b + 0)), some (.int x), some (.int z)] [] (wH G b tbM T h0) := by
  -- %m X12_readExpression
  refine V_aload_n (pc := 67) (i := 0) dX12_readExpression_67 rfl rfl ?_
  refine V_ldcSW (pc := 68) (i := 39) dX12_readExpression_68 rfl ?_
  refine V_V1i (pc := 71) dX12_readExpression_71 cX12_206 (by first | assumption | rfl) (X12_is_bad (d := 0) h0') (Nat.le_of_ble_eq_true rfl) (by omega) (Nat.le_of_ble_eq_true rfl) ?_
  refine V_if_eq (pc := 74) 95 dX12_readExpression_74 rfl (fun _ => ?_) (fun c => absurd rfl c)
  exact V_vret (pc := 95) dX12_readExpression_95 rfl hq
theorem X12_readExpression_bad (h0' : ¬ T 0 23 = 0) (x : Int32) : VM G mX12_readExpression d 0 0 [.ref (b + 0), .int x] (xE none (wH G b tbM T h0)) (wH G b tbM T h0) := by
  refine VM_start (ls := [some (.ref (b + 0)), some (.int x), none]) rfl ?_
  -- %m X12_readExpression
  refine V_aload_n (pc := 0) (i := 0) dX12_readExpression_0 rfl rfl ?_
  refine VW_getI (pc := 1) dX12_readExpression_1 fX12_192 (by first | assumption | rfl) rfl ?_
  refine V_if_eq (pc := 4) 8 dX12_readExpression_4 rfl (fun c => absurd c h0') (fun _ => ?_)
  exact VE_vret (pc := 7) dX12_readExpression_7 rfl rfl
/-- a row of products: R reads a part -/
theorem X12_readProduct {D dd : Nat} {R : (Nat → Nat → Int32) → Bool × (Nat → Nat → Int32)} (hC : XC G b h0 mX12_readPart D dd w t R) (hdd : 2 ≤ dd) (hb : gB G ≤ b) : XC G b h0 mX12_readProduct (D + 1) (dd + 1) w t (rowR t 4 R 700 ∘ fun S => (0, S)) := by
  intro S T d hd p
  refine VM_start (ls := [some (.ref (b + 0)), some (.int (nI w)), none]) rfl ?_
  show V G mX12_readProduct d 0 0 (xXm G b h0 (XQ (D + 1) S T t (rowR t 4 R 700 (0, S)))) 0 _ _ _
  rw [rowR_0]
  -- %m X12_readProduct
  have out : ∀ (T' : Nat → Nat → Int32) (Q : xR → xH → Prop) (z : Option Value), ¬ T' 0 23 = 0 → Q (.inl none) (wH G b tbM T' h0) → V G mX12_readProduct d 0 0 Q 5 [some (.ref (b + 0)), some (.int (nI w)), z] [] (wH G b tbM T' h0) := by
    intro T' Q z h0' hq
    refine V_aload_n (pc := 5) (i := 0) dX12_readProduct_5 rfl rfl ?_
    refine V_bipush (pc := 6) (v := 42) dX12_readProduct_6 (by decide) ?_
    refine V_V1i (pc := 8) dX12_readProduct_8 cX12_210 (by first | assumption | rfl) (X12_isMarked_bad (d := 0) h0' _) (Nat.le_of_ble_eq_true rfl) (by omega) (Nat.le_of_ble_eq_true rfl) ?_
    refine V_if_ne (pc := 11) 23 dX12_readProduct_11 rfl (fun c => absurd rfl c) (fun _ => ?_)
    refine V_aload_n (pc := 14) (i := 0) dX12_readProduct_14 rfl rfl ?_
    refine V_bipush (pc := 15) (v := 47) dX12_readProduct_15 (by decide) ?_
    refine V_V1i (pc := 17) dX12_readProduct_17 cX12_210 (by first | assumption | rfl) (X12_isMarked_bad (d := 0) h0' _) (Nat.le_of_ble_eq_true rfl) (by omega) (Nat.le_of_ble_eq_true rfl) ?_
    refine V_if_eq (pc := 20) 57 dX12_readProduct_20 rfl (fun _ => ?_) (fun c => absurd rfl c)
    exact V_vret (pc := 57) dX12_readProduct_57 rfl hq
  have loop : ∀ (m : Nat) (S1 T1 : Nat → Nat → Int32), 700 ≤ m + tP S1 → XOk (D + 1) S T S1 T1 t → V G mX12_readProduct d 0 0 (xXm G b h0 (XQ (D + 1) S T t (opsF t 4 R m S1))) 5 [some (.ref (b + 0)), some (.int (nI w)), none] [] (wH G b tbM T1 h0) := by
    intro m
    induction m with
    | zero =>
      intro S1 T1 hm x
      have h7 := tP7 x.1
      have hk : S1 2 6 = 0 := by
        rcases Int32.decEq (S1 2 6) 0 with q | q
        · have := RTk_lt x.1 q; omega
        · exact q
      have n3 : ¬ T1 0 19 = 3 := by rw [← x.1.2.2.1, hk]; decide
      refine V_aload_n (pc := 5) (i := 0) dX12_readProduct_5 rfl rfl ?_
      refine V_bipush (pc := 6) (v := 42) dX12_readProduct_6 (by decide) ?_
      refine V_V1i (pc := 8) dX12_readProduct_8 cX12_210 (by first | assumption | rfl) (X12_isMarked (d := 0) x.1.2.1 x.2.1 _) (Nat.le_of_ble_eq_true rfl) (by omega) (Nat.le_of_ble_eq_true rfl) ?_
      refine V_if_ne (pc := 11) 23 dX12_readProduct_11 rfl (fun c => absurd (show b2i (mMk T1 (tP S1) 42) = 0 by unfold mMk; rw [decide_eq_false n3]; rfl) c) (fun _ => ?_)
      refine V_aload_n (pc := 14) (i := 0) dX12_readProduct_14 rfl rfl ?_
      refine V_bipush (pc := 15) (v := 47) dX12_readProduct_15 (by decide) ?_
      refine V_V1i (pc := 17) dX12_readProduct_17 cX12_210 (by first | assumption | rfl) (X12_isMarked (d := 0) x.1.2.1 x.2.1 _) (Nat.le_of_ble_eq_true rfl) (by omega) (Nat.le_of_ble_eq_true rfl) ?_
      refine V_if_eq (pc := 20) 57 dX12_readProduct_20 rfl (fun _ => ?_) (fun c => absurd (show b2i (mMk T1 (tP S1) 47) = 0 by unfold mMk; rw [decide_eq_false n3]; rfl) c)
      exact VX_ret (pc := 57) dX12_readProduct_57 rfl (XQ_t rfl x)
    | succ m ih =>
      intro S1 T1 hm x
      rw [opsF]
      have hop : opH S1 4 = if sgn S1 42 then 10014 else if sgn S1 47 then 10015 else -1 := rfl
      -- an operator stands here
      have one : ∀ op : Int32, opH S1 4 = op → binO op → ¬ S1 2 6 = 0 → ¬ op = -1 → V G mX12_readProduct d 0 0 (xXm G b h0 (XQ (D + 1) S T t (if opH S1 4 = -1 then (true, S1) else if (R (adv S1)).1 then opsF t 4 R m (raS (R (adv S1)).2 t (opH S1 4)) else (false, (R (adv S1)).2)))) 39 [some (.ref (b + 0)), some (.int (nI w)), none] [.int (cmS op)] (wH G b tbM T1 h0) := by
        intro op ho hbin hk hne
        rw [ho, if_neg hne]
        obtain ⟨p2, lt2⟩ := Pre_adv x.pre hk
        refine V_istore_n (pc := 39) (i := 2) dX12_readProduct_39 rfl (by decide) rfl ?_
        refine V_aload_n (pc := 40) (i := 0) dX12_readProduct_40 rfl rfl ?_
        refine V_V0v (pc := 41) dX12_readProduct_41 cX12_217 (by first | assumption | rfl) (X12_step (d := 1) x.1.2.1 hb (by omega)) (Nat.le_of_ble_eq_true rfl) (by omega) (Nat.le_of_ble_eq_true rfl) ?_
        refine V_aload_n (pc := 44) (i := 0) dX12_readProduct_44 rfl rfl ?_
        refine V_iload_n (pc := 45) (i := 1) dX12_readProduct_45 rfl rfl ?_
        refine V_X1 (pc := 46) dX12_readProduct_46 cX12_239 rfl (hC (adv S1) (mAd S1 T1) dd (Nat.le_refl _) p2) (Nat.le_of_ble_eq_true rfl) (by omega) (Nat.le_of_ble_eq_true rfl) (fun T3 q3 => ?_)
        rcases XQ_E q3 with ⟨e, y⟩ | ⟨e, y, ey⟩
        · obtain ⟨r3, k1, k2, k3⟩ := XOk_op x hk y (Nat.le_refl _) hbin
          rw [if_pos e]
          refine V_aload_n (pc := 49) (i := 0) dX12_readProduct_49 rfl rfl ?_
          refine V_iload_n (pc := 50) (i := 2) dX12_readProduct_50 rfl rfl ?_
          refine V_V1v (pc := 51) dX12_readProduct_51 cX12_226 (by first | assumption | rfl) (X12_lay (d := 0) k1 k2 y.2.1 _ hb) (Nat.le_of_ble_eq_true rfl) (by omega) (Nat.le_of_ble_eq_true rfl) ?_
          refine V_goto (pc := 54) 5 dX12_readProduct_54 rfl ?_
          have hP : tP (adv S1) ≤ tP (R (adv S1)).2 := by
            obtain ⟨c1, c2, c3, c4, q, r3, d1, d2, d3, d4, d5, d6, d7, -⟩ := y
            omega
          exact V_forget 2 (ih _ _ (by rw [show tP (raS (R (adv S1)).2 t op) = tP (R (adv S1)).2 by unfold tP; rw [raS_off (by have := x.2.2.2.1; omega) (by have := x.2.2.2.1; omega)]]; omega) k3)
        · rw [if_neg (by rw [e]; decide)]
          refine V_aload_n (pc := 49) (i := 0) dX12_readProduct_49 rfl rfl ?_
          refine V_iload_n (pc := 50) (i := 2) dX12_readProduct_50 rfl rfl ?_
          refine V_V1v (pc := 51) dX12_readProduct_51 cX12_226 (by first | assumption | rfl) (X12_lay_bad (d := 0) y.1 _) (Nat.le_of_ble_eq_true rfl) (by omega) (Nat.le_of_ble_eq_true rfl) ?_
          refine V_goto (pc := 54) 5 dX12_readProduct_54 rfl ?_
          exact out _ _ _ y.1 ⟨rfl, T3, rfl, XQ_f rfl y ((x.2.2.1.trans EX_step).trans ey)⟩
      refine V_aload_n (pc := 5) (i := 0) dX12_readProduct_5 rfl rfl ?_
      refine V_bipush (pc := 6) (v := 42) dX12_readProduct_6 (by decide) ?_
      refine V_V1i (pc := 8) dX12_readProduct_8 cX12_210 (by first | assumption | rfl) (X12_isMarked (d := 0) x.1.2.1 x.2.1 _) (Nat.le_of_ble_eq_true rfl) (by omega) (Nat.le_of_ble_eq_true rfl) ?_
      rw [← RTk_sgn x.1]
      refine V_if_ne (pc := 11) 23 dX12_readProduct_11 rfl (fun c11 => ?_) (fun c11 => ?_)
      · have s1 : sgn S1 42 = true := b2i_n0.mp c11
        refine V_aload_n (pc := 23) (i := 0) dX12_readProduct_23 rfl rfl ?_
        refine V_bipush (pc := 24) (v := 42) dX12_readProduct_24 (by decide) ?_
        refine V_V1i (pc := 26) dX12_readProduct_26 cX12_210 (by first | assumption | rfl) (X12_isMarked (d := 0) x.1.2.1 x.2.1 _) (Nat.le_of_ble_eq_true rfl) (by omega) (Nat.le_of_ble_eq_true rfl) ?_
        rw [← RTk_sgn x.1]
        refine V_if_eq (pc := 29) 37 dX12_readProduct_29 rfl (fun c => absurd c c11) (fun _ => ?_)
        refine V_bipush (pc := 32) (v := -22) dX12_readProduct_32 (by decide) ?_
        refine V_goto (pc := 34) 39 dX12_readProduct_34 rfl ?_
        exact one 10014 (by rw [hop, if_pos s1]) (by unfold binO; simp) (fun q => by unfold sgn at s1; rw [q] at s1; simp at s1) (by decide)
      · have s1 : sgn S1 42 = false := b2i_0.mp c11
        refine V_aload_n (pc := 14) (i := 0) dX12_readProduct_14 rfl rfl ?_
        refine V_bipush (pc := 15) (v := 47) dX12_readProduct_15 (by decide) ?_
        refine V_V1i (pc := 17) dX12_readProduct_17 cX12_210 (by first | assumption | rfl) (X12_isMarked (d := 0) x.1.2.1 x.2.1 _) (Nat.le_of_ble_eq_true rfl) (by omega) (Nat.le_of_ble_eq_true rfl) ?_
        rw [← RTk_sgn x.1]
        refine V_if_eq (pc := 20) 57 dX12_readProduct_20 rfl (fun c20 => ?_) (fun c20 => ?_)
        · have s2 : sgn S1 47 = false := b2i_0.mp c20
          have e : opH S1 4 = -1 := by rw [hop, s1, s2]; rfl
          rw [if_pos e]
          exact VX_ret (pc := 57) dX12_readProduct_57 rfl (XQ_t rfl x)
        · have s2 : sgn S1 47 = true := b2i_n0.mp c20
          refine V_aload_n (pc := 23) (i := 0) dX12_readProduct_23 rfl rfl ?_
          refine V_bipush (pc := 24) (v := 42) dX12_readProduct_24 (by decide) ?_
          refine V_V1i (pc := 26) dX12_readProduct_26 cX12_210 (by first | assumption | rfl) (X12_isMarked (d := 0) x.1.2.1 x.2.1 _) (Nat.le_of_ble_eq_true rfl) (by omega) (Nat.le_of_ble_eq_true rfl) ?_
          rw [← RTk_sgn x.1]
          refine V_if_eq (pc := 29) 37 dX12_readProduct_29 rfl (fun _ => ?_) (fun c => absurd c11 c)
          refine V_bipush (pc := 37) (v := -23) dX12_readProduct_37 (by decide) ?_
          exact one 10015 (by rw [hop, s1, s2]; rfl) (by unfold binO; simp) (fun q => by unfold sgn at s2; rw [q] at s2; simp at s2) (by decide)
  refine V_aload_n (pc := 0) (i := 0) dX12_readProduct_0 rfl rfl ?_
  refine V_iload_n (pc := 1) (i := 1) dX12_readProduct_1 rfl rfl ?_
  refine V_X1 (pc := 2) dX12_readProduct_2 cX12_239 rfl (hC S T dd (Nat.le_refl _) p) (Nat.le_of_ble_eq_true rfl) (by omega) (Nat.le_of_ble_eq_true rfl) (fun T1 q1 => ?_)
  rcases XQ_E q1 with ⟨e, y⟩ | ⟨e, y, ey⟩
  · rw [if_pos e]
    exact loop 700 _ _ (by omega) (y.mono (by omega))
  · rw [if_neg (by rw [e]; decide)]
    exact out _ _ _ y.1 ⟨rfl, T1, rfl, XQ_f rfl y ey⟩
end P5
