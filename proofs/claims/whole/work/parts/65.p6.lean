/-! ===== both readers side by side: sums, ANDS, an EXPR ===== -/
section P6
variable {G : xG} {d : Nat} {b : Nat} {S S1 S2 S3 T T1 T2 T3 U Z : Nat → Nat → Int32} {h0 h : xH} {t w : Nat}
/-- a row of sums: R reads a product -/
theorem X12_readSum {D dd : Nat} {R : (Nat → Nat → Int32) → Bool × (Nat → Nat → Int32)} (hC : XC G b h0 mX12_readProduct D dd w t R) (hdd : 2 ≤ dd) (hb : gB G ≤ b) : XC G b h0 mX12_readSum (D + 1) (dd + 1) w t (rowR t 3 R 700 ∘ fun S => (0, S)) := by
  intro S T d hd p
  refine VM_start (ls := [some (.ref (b + 0)), some (.int (nI w)), none]) rfl ?_
  show V G mX12_readSum d 0 0 (xXm G b h0 (XQ (D + 1) S T t (rowR t 3 R 700 (0, S)))) 0 _ _ _
  rw [rowR_0]
  -- %m X12_readSum
  have out : ∀ (T' : Nat → Nat → Int32) (Q : xR → xH → Prop) (z : Option Value), ¬ T' 0 23 = 0 → Q (.inl none) (wH G b tbM T' h0) → V G mX12_readSum d 0 0 Q 5 [some (.ref (b + 0)), some (.int (nI w)), z] [] (wH G b tbM T' h0) := by
    intro T' Q z h0' hq
    refine V_aload_n (pc := 5) (i := 0) dX12_readSum_5 rfl rfl ?_
    refine V_bipush (pc := 6) (v := 43) dX12_readSum_6 (by decide) ?_
    refine V_V1i (pc := 8) dX12_readSum_8 cX12_210 (by first | assumption | rfl) (X12_isMarked_bad (d := 0) h0' _) (Nat.le_of_ble_eq_true rfl) (by omega) (Nat.le_of_ble_eq_true rfl) ?_
    refine V_if_ne (pc := 11) 23 dX12_readSum_11 rfl (fun c => absurd rfl c) (fun _ => ?_)
    refine V_aload_n (pc := 14) (i := 0) dX12_readSum_14 rfl rfl ?_
    refine V_bipush (pc := 15) (v := 45) dX12_readSum_15 (by decide) ?_
    refine V_V1i (pc := 17) dX12_readSum_17 cX12_210 (by first | assumption | rfl) (X12_isMarked_bad (d := 0) h0' _) (Nat.le_of_ble_eq_true rfl) (by omega) (Nat.le_of_ble_eq_true rfl) ?_
    refine V_if_eq (pc := 20) 57 dX12_readSum_20 rfl (fun _ => ?_) (fun c => absurd rfl c)
    exact V_vret (pc := 57) dX12_readSum_57 rfl hq
  have loop : ∀ (m : Nat) (S1 T1 : Nat → Nat → Int32), 700 ≤ m + tP S1 → XOk (D + 1) S T S1 T1 t → V G mX12_readSum d 0 0 (xXm G b h0 (XQ (D + 1) S T t (opsF t 3 R m S1))) 5 [some (.ref (b + 0)), some (.int (nI w)), none] [] (wH G b tbM T1 h0) := by
    intro m
    induction m with
    | zero =>
      intro S1 T1 hm x
      have h7 := tP7 x.1
      have hk : S1 2 6 = 0 := by
        rcases Int32.decEq (S1 2 6) 0 with q | q
        · have := RTk_lt x.1 q; omega
        · exact q
      have n3 : ¬ T1 0 19 = 3 := by rw [← x.1.2.2.1, hk]; decide
      refine V_aload_n (pc := 5) (i := 0) dX12_readSum_5 rfl rfl ?_
      refine V_bipush (pc := 6) (v := 43) dX12_readSum_6 (by decide) ?_
      refine V_V1i (pc := 8) dX12_readSum_8 cX12_210 (by first | assumption | rfl) (X12_isMarked (d := 0) x.1.2.1 x.2.1 _) (Nat.le_of_ble_eq_true rfl) (by omega) (Nat.le_of_ble_eq_true rfl) ?_
      refine V_if_ne (pc := 11) 23 dX12_readSum_11 rfl (fun c => absurd (show b2i (mMk T1 (tP S1) 43) = 0 by unfold mMk; rw [decide_eq_false n3]; rfl) c) (fun _ => ?_)
      refine V_aload_n (pc := 14) (i := 0) dX12_readSum_14 rfl rfl ?_
      refine V_bipush (pc := 15) (v := 45) dX12_readSum_15 (by decide) ?_
      refine V_V1i (pc := 17) dX12_readSum_17 cX12_210 (by first | assumption | rfl) (X12_isMarked (d := 0) x.1.2.1 x.2.1 _) (Nat.le_of_ble_eq_true rfl) (by omega) (Nat.le_of_ble_eq_true rfl) ?_
      refine V_if_eq (pc := 20) 57 dX12_readSum_20 rfl (fun _ => ?_) (fun c => absurd (show b2i (mMk T1 (tP S1) 45) = 0 by unfold mMk; rw [decide_eq_false n3]; rfl) c)
      exact VX_ret (pc := 57) dX12_readSum_57 rfl (XQ_t rfl x)
    | succ m ih =>
      intro S1 T1 hm x
      rw [opsF]
      have hop : opH S1 3 = if sgn S1 43 then 10012 else if sgn S1 45 then 10013 else -1 := rfl
      -- an operator stands here
      have one : ∀ op : Int32, opH S1 3 = op → binO op → ¬ S1 2 6 = 0 → ¬ op = -1 → V G mX12_readSum d 0 0 (xXm G b h0 (XQ (D + 1) S T t (if opH S1 3 = -1 then (true, S1) else if (R (adv S1)).1 then opsF t 3 R m (raS (R (adv S1)).2 t (opH S1 3)) else (false, (R (adv S1)).2)))) 39 [some (.ref (b + 0)), some (.int (nI w)), none] [.int (cmS op)] (wH G b tbM T1 h0) := by
        intro op ho hbin hk hne
        rw [ho, if_neg hne]
        obtain ⟨p2, lt2⟩ := Pre_adv x.pre hk
        refine V_istore_n (pc := 39) (i := 2) dX12_readSum_39 rfl (by decide) rfl ?_
        refine V_aload_n (pc := 40) (i := 0) dX12_readSum_40 rfl rfl ?_
        refine V_V0v (pc := 41) dX12_readSum_41 cX12_217 (by first | assumption | rfl) (X12_step (d := 1) x.1.2.1 hb (by omega)) (Nat.le_of_ble_eq_true rfl) (by omega) (Nat.le_of_ble_eq_true rfl) ?_
        refine V_aload_n (pc := 44) (i := 0) dX12_readSum_44 rfl rfl ?_
        refine V_iload_n (pc := 45) (i := 1) dX12_readSum_45 rfl rfl ?_
        refine V_X1 (pc := 46) dX12_readSum_46 cX12_242 rfl (hC (adv S1) (mAd S1 T1) dd (Nat.le_refl _) p2) (Nat.le_of_ble_eq_true rfl) (by omega) (Nat.le_of_ble_eq_true rfl) (fun T3 q3 => ?_)
        rcases XQ_E q3 with ⟨e, y⟩ | ⟨e, y, ey⟩
        · obtain ⟨r3, k1, k2, k3⟩ := XOk_op x hk y (Nat.le_refl _) hbin
          rw [if_pos e]
          refine V_aload_n (pc := 49) (i := 0) dX12_readSum_49 rfl rfl ?_
          refine V_iload_n (pc := 50) (i := 2) dX12_readSum_50 rfl rfl ?_
          refine V_V1v (pc := 51) dX12_readSum_51 cX12_226 (by first | assumption | rfl) (X12_lay (d := 0) k1 k2 y.2.1 _ hb) (Nat.le_of_ble_eq_true rfl) (by omega) (Nat.le_of_ble_eq_true rfl) ?_
          refine V_goto (pc := 54) 5 dX12_readSum_54 rfl ?_
          have hP : tP (adv S1) ≤ tP (R (adv S1)).2 := by
            obtain ⟨c1, c2, c3, c4, q, r3, d1, d2, d3, d4, d5, d6, d7, -⟩ := y
            omega
          exact V_forget 2 (ih _ _ (by rw [show tP (raS (R (adv S1)).2 t op) = tP (R (adv S1)).2 by unfold tP; rw [raS_off (by have := x.2.2.2.1; omega) (by have := x.2.2.2.1; omega)]]; omega) k3)
        · rw [if_neg (by rw [e]; decide)]
          refine V_aload_n (pc := 49) (i := 0) dX12_readSum_49 rfl rfl ?_
          refine V_iload_n (pc := 50) (i := 2) dX12_readSum_50 rfl rfl ?_
          refine V_V1v (pc := 51) dX12_readSum_51 cX12_226 (by first | assumption | rfl) (X12_lay_bad (d := 0) y.1 _) (Nat.le_of_ble_eq_true rfl) (by omega) (Nat.le_of_ble_eq_true rfl) ?_
          refine V_goto (pc := 54) 5 dX12_readSum_54 rfl ?_
          exact out _ _ _ y.1 ⟨rfl, T3, rfl, XQ_f rfl y ((x.2.2.1.trans EX_step).trans ey)⟩
      refine V_aload_n (pc := 5) (i := 0) dX12_readSum_5 rfl rfl ?_
      refine V_bipush (pc := 6) (v := 43) dX12_readSum_6 (by decide) ?_
      refine V_V1i (pc := 8) dX12_readSum_8 cX12_210 (by first | assumption | rfl) (X12_isMarked (d := 0) x.1.2.1 x.2.1 _) (Nat.le_of_ble_eq_true rfl) (by omega) (Nat.le_of_ble_eq_true rfl) ?_
      rw [← RTk_sgn x.1]
      refine V_if_ne (pc := 11) 23 dX12_readSum_11 rfl (fun c11 => ?_) (fun c11 => ?_)
      · have s1 : sgn S1 43 = true := b2i_n0.mp c11
        refine V_aload_n (pc := 23) (i := 0) dX12_readSum_23 rfl rfl ?_
        refine V_bipush (pc := 24) (v := 43) dX12_readSum_24 (by decide) ?_
        refine V_V1i (pc := 26) dX12_readSum_26 cX12_210 (by first | assumption | rfl) (X12_isMarked (d := 0) x.1.2.1 x.2.1 _) (Nat.le_of_ble_eq_true rfl) (by omega) (Nat.le_of_ble_eq_true rfl) ?_
        rw [← RTk_sgn x.1]
        refine V_if_eq (pc := 29) 37 dX12_readSum_29 rfl (fun c => absurd c c11) (fun _ => ?_)
        refine V_bipush (pc := 32) (v := -20) dX12_readSum_32 (by decide) ?_
        refine V_goto (pc := 34) 39 dX12_readSum_34 rfl ?_
        exact one 10012 (by rw [hop, if_pos s1]) (by unfold binO; simp) (fun q => by unfold sgn at s1; rw [q] at s1; simp at s1) (by decide)
      · have s1 : sgn S1 43 = false := b2i_0.mp c11
        refine V_aload_n (pc := 14) (i := 0) dX12_readSum_14 rfl rfl ?_
        refine V_bipush (pc := 15) (v := 45) dX12_readSum_15 (by decide) ?_
        refine V_V1i (pc := 17) dX12_readSum_17 cX12_210 (by first | assumption | rfl) (X12_isMarked (d := 0) x.1.2.1 x.2.1 _) (Nat.le_of_ble_eq_true rfl) (by omega) (Nat.le_of_ble_eq_true rfl) ?_
        rw [← RTk_sgn x.1]
        refine V_if_eq (pc := 20) 57 dX12_readSum_20 rfl (fun c20 => ?_) (fun c20 => ?_)
        · have s2 : sgn S1 45 = false := b2i_0.mp c20
          have e : opH S1 3 = -1 := by rw [hop, s1, s2]; rfl
          rw [if_pos e]
          exact VX_ret (pc := 57) dX12_readSum_57 rfl (XQ_t rfl x)
        · have s2 : sgn S1 45 = true := b2i_n0.mp c20
          refine V_aload_n (pc := 23) (i := 0) dX12_readSum_23 rfl rfl ?_
          refine V_bipush (pc := 24) (v := 43) dX12_readSum_24 (by decide) ?_
          refine V_V1i (pc := 26) dX12_readSum_26 cX12_210 (by first | assumption | rfl) (X12_isMarked (d := 0) x.1.2.1 x.2.1 _) (Nat.le_of_ble_eq_true rfl) (by omega) (Nat.le_of_ble_eq_true rfl) ?_
          rw [← RTk_sgn x.1]
          refine V_if_eq (pc := 29) 37 dX12_readSum_29 rfl (fun _ => ?_) (fun c => absurd c11 c)
          refine V_bipush (pc := 37) (v := -21) dX12_readSum_37 (by decide) ?_
          exact one 10013 (by rw [hop, s1, s2]; rfl) (by unfold binO; simp) (fun q => by unfold sgn at s2; rw [q] at s2; simp at s2) (by decide)
  refine V_aload_n (pc := 0) (i := 0) dX12_readSum_0 rfl rfl ?_
  refine V_iload_n (pc := 1) (i := 1) dX12_readSum_1 rfl rfl ?_
  refine V_X1 (pc := 2) dX12_readSum_2 cX12_242 rfl (hC S T dd (Nat.le_refl _) p) (Nat.le_of_ble_eq_true rfl) (by omega) (Nat.le_of_ble_eq_true rfl) (fun T1 q1 => ?_)
  rcases XQ_E q1 with ⟨e, y⟩ | ⟨e, y, ey⟩
  · rw [if_pos e]
    exact loop 700 _ _ (by omega) (y.mono (by omega))
  · rw [if_neg (by rw [e]; decide)]
    exact out _ _ _ y.1 ⟨rfl, T1, rfl, XQ_f rfl y ey⟩
/-- a row of ANDS: R reads a NOT row -/
theorem X12_readAnd {D dd : Nat} {R : (Nat → Nat → Int32) → Bool × (Nat → Nat → Int32)} (hC : XC G b h0 mX12_readNot D dd w t R) (hdd : 5 ≤ dd) (hb : gB G ≤ b) : XC G b h0 mX12_readAnd (D + 1) (dd + 1) w t (rowR t 1 R 700 ∘ fun S => (0, S)) := by
  intro S T d hd p
  refine VM_start (ls := [some (.ref (b + 0)), some (.int (nI w))]) rfl ?_
  show V G mX12_readAnd d 0 0 (xXm G b h0 (XQ (D + 1) S T t (rowR t 1 R 700 (0, S)))) 0 _ _ _
  rw [rowR_0]
  -- %m X12_readAnd
  have out : ∀ (T' : Nat → Nat → Int32) (Q : xR → xH → Prop), ¬ T' 0 23 = 0 → Q (.inl none) (wH G b tbM T' h0) → V G mX12_readAnd d 0 0 Q 5 [some (.ref (b + 0)), some (.int (nI w))] [] (wH G b tbM T' h0) := by
    intro T' Q h0' hq
    refine V_aload_n (pc := 5) (i := 0) dX12_readAnd_5 rfl rfl ?_
    refine V_ldcS (pc := 6) (i := 38) dX12_readAnd_6 rfl ?_
    refine V_V1i (pc := 8) dX12_readAnd_8 cX12_206 (by first | assumption | rfl) (X12_is_bad (d := 0) h0') (Nat.le_of_ble_eq_true rfl) (by omega) (Nat.le_of_ble_eq_true rfl) ?_
    refine V_if_eq (pc := 11) 32 dX12_readAnd_11 rfl (fun _ => ?_) (fun c => absurd rfl c)
    exact V_vret (pc := 32) dX12_readAnd_32 rfl hq
  have loop : ∀ (m : Nat) (S1 T1 : Nat → Nat → Int32), 700 ≤ m + tP S1 → XOk (D + 1) S T S1 T1 t → V G mX12_readAnd d 0 0 (xXm G b h0 (XQ (D + 1) S T t (opsF t 1 R m S1))) 5 [some (.ref (b + 0)), some (.int (nI w))] [] (wH G b tbM T1 h0) := by
    intro m
    induction m with
    | zero =>
      intro S1 T1 hm x
      have h7 := tP7 x.1
      have hk : S1 2 6 = 0 := by
        rcases Int32.decEq (S1 2 6) 0 with q | q
        · have := RTk_lt x.1 q; omega
        · exact q
      have n3 : ¬ T1 0 19 = 1 := by rw [← x.1.2.2.1, hk]; decide
      refine V_aload_n (pc := 5) (i := 0) dX12_readAnd_5 rfl rfl ?_
      refine V_ldcS (pc := 6) (i := 38) dX12_readAnd_6 rfl ?_
      refine V_V1i (pc := 8) dX12_readAnd_8 cX12_206 (by first | assumption | rfl) (X12_is (d := 4) rfl x.1.2.1 x.2.1 (by omega)) (Nat.le_of_ble_eq_true rfl) (by omega) (Nat.le_of_ble_eq_true rfl) ?_
      refine V_if_eq (pc := 11) 32 dX12_readAnd_11 rfl (fun _ => ?_) (fun c => absurd (show b2i (mWrd T1 (tL S1) (tP S1) (tE S1) lAnd) = 0 by unfold mWrd; rw [decide_eq_false n3]; rfl) c)
      exact VX_ret (pc := 32) dX12_readAnd_32 rfl (XQ_t rfl x)
    | succ m ih =>
      intro S1 T1 hm x
      rw [opsF]
      have hop : opH S1 1 = if wrd S1 lAnd then 10009 else -1 := rfl
      refine V_aload_n (pc := 5) (i := 0) dX12_readAnd_5 rfl rfl ?_
      refine V_ldcS (pc := 6) (i := 38) dX12_readAnd_6 rfl ?_
      refine V_V1i (pc := 8) dX12_readAnd_8 cX12_206 (by first | assumption | rfl) (X12_is (d := 4) rfl x.1.2.1 x.2.1 (by omega)) (Nat.le_of_ble_eq_true rfl) (by omega) (Nat.le_of_ble_eq_true rfl) ?_
      refine V_if_eq (pc := 11) 32 dX12_readAnd_11 rfl (fun c11 => ?_) (fun c11 => ?_)
      · have s2 : wrd S1 lAnd = false := by rw [RTk_wrd x.1]; exact b2i_0.mp c11
        have e : opH S1 1 = -1 := by rw [hop, s2]; rfl
        rw [if_pos e]
        exact VX_ret (pc := 32) dX12_readAnd_32 rfl (XQ_t rfl x)
      · have s2 : wrd S1 lAnd = true := by rw [RTk_wrd x.1]; exact b2i_n0.mp c11
        have ho : opH S1 1 = 10009 := by rw [hop, if_pos s2]
        have hk : ¬ S1 2 6 = 0 := fun q => by unfold wrd at s2; rw [q] at s2; simp at s2
        rw [ho, if_neg (by decide)]
        obtain ⟨p2, lt2⟩ := Pre_adv x.pre hk
        refine V_aload_n (pc := 14) (i := 0) dX12_readAnd_14 rfl rfl ?_
        refine V_V0v (pc := 15) dX12_readAnd_15 cX12_217 (by first | assumption | rfl) (X12_step (d := 1) x.1.2.1 hb (by omega)) (Nat.le_of_ble_eq_true rfl) (by omega) (Nat.le_of_ble_eq_true rfl) ?_
        refine V_aload_n (pc := 18) (i := 0) dX12_readAnd_18 rfl rfl ?_
        refine V_iload_n (pc := 19) (i := 1) dX12_readAnd_19 rfl rfl ?_
        refine V_X1 (pc := 20) dX12_readAnd_20 cX12_250 rfl (hC (adv S1) (mAd S1 T1) dd (Nat.le_refl _) p2) (Nat.le_of_ble_eq_true rfl) (by omega) (Nat.le_of_ble_eq_true rfl) (fun T3 q3 => ?_)
        rcases XQ_E q3 with ⟨e, y⟩ | ⟨e, y, ey⟩
        · obtain ⟨r3, k1, k2, k3⟩ := XOk_op (op := 10009) x hk y (Nat.le_refl _) (by unfold binO; simp)
          rw [if_pos e]
          refine V_aload_n (pc := 23) (i := 0) dX12_readAnd_23 rfl rfl ?_
          refine V_bipush (pc := 24) (v := -26) dX12_readAnd_24 (by decide) ?_
          refine V_V1v (pc := 26) dX12_readAnd_26 cX12_226 (by first | assumption | rfl) (X12_lay (d := 0) k1 k2 y.2.1 _ hb) (Nat.le_of_ble_eq_true rfl) (by omega) (Nat.le_of_ble_eq_true rfl) ?_
          refine V_goto (pc := 29) 5 dX12_readAnd_29 rfl ?_
          have hP : tP (adv S1) ≤ tP (R (adv S1)).2 := by
            obtain ⟨c1, c2, c3, c4, q, r3, d1, d2, d3, d4, d5, d6, d7, -⟩ := y
            omega
          exact ih _ _ (by rw [show tP (raS (R (adv S1)).2 t 10009) = tP (R (adv S1)).2 by unfold tP; rw [raS_off (by have := x.2.2.2.1; omega) (by have := x.2.2.2.1; omega)]]; omega) k3
        · rw [if_neg (by rw [e]; decide)]
          refine V_aload_n (pc := 23) (i := 0) dX12_readAnd_23 rfl rfl ?_
          refine V_bipush (pc := 24) (v := -26) dX12_readAnd_24 (by decide) ?_
          refine V_V1v (pc := 26) dX12_readAnd_26 cX12_226 (by first | assumption | rfl) (X12_lay_bad (d := 0) y.1 _) (Nat.le_of_ble_eq_true rfl) (by omega) (Nat.le_of_ble_eq_true rfl) ?_
          refine V_goto (pc := 29) 5 dX12_readAnd_29 rfl ?_
          exact out _ _ y.1 ⟨rfl, T3, rfl, XQ_f rfl y ((x.2.2.1.trans EX_step).trans ey)⟩
  refine V_aload_n (pc := 0) (i := 0) dX12_readAnd_0 rfl rfl ?_
  refine V_iload_n (pc := 1) (i := 1) dX12_readAnd_1 rfl rfl ?_
  refine V_X1 (pc := 2) dX12_readAnd_2 cX12_250 rfl (hC S T dd (Nat.le_refl _) p) (Nat.le_of_ble_eq_true rfl) (by omega) (Nat.le_of_ble_eq_true rfl) (fun T1 q1 => ?_)
  rcases XQ_E q1 with ⟨e, y⟩ | ⟨e, y, ey⟩
  · rw [if_pos e]
    exact loop 700 _ _ (by omega) (y.mono (by omega))
  · rw [if_neg (by rw [e]; decide)]
    exact out _ _ y.1 ⟨rfl, T1, rfl, XQ_f rfl y ey⟩
/-- an EXPR: R reads an AND row -/
theorem X12_readExpr {D dd : Nat} {R : (Nat → Nat → Int32) → Bool × (Nat → Nat → Int32)} (hC : XC G b h0 mX12_readAnd D dd w t R) (hdd : 5 ≤ dd) (hw : w < 6) (hb : gB G ≤ b) (hR : ∀ S, stS S = false → rowR t 0 R 700 (0, S) = (false, rfs S 1)) : XC G b h0 mX12_readExpression (D + 1) (dd + 1) w t (rowR t 0 R 700 ∘ fun S => (0, S)) := by
  intro S T d hd p
  refine VM_start (ls := [some (.ref (b + 0)), some (.int (nI w)), none]) rfl ?_
  show V G mX12_readExpression d 0 0 (xXm G b h0 (XQ (D + 1) S T t (rowR t 0 R 700 (0, S)))) 0 _ _ _
  -- %m X12_readExpression
  have loop : ∀ (m : Nat) (S1 T1 : Nat → Nat → Int32) (z : Int32), 700 ≤ m + tP S1 → XOk (D + 1) S T S1 T1 t → V G mX12_readExpression d 0 0 (xXm G b h0 (XQ (D + 1) S T t (opsF t 0 R m S1))) 67 [some (.ref (b + 0)), some (.int (nI w)), some (.int z)] [] (wH G b tbM T1 h0) := by
    intro m
    induction m with
    | zero =>
      intro S1 T1 z hm x
      have h7 := tP7 x.1
      have hk : S1 2 6 = 0 := by
        rcases Int32.decEq (S1 2 6) 0 with q | q
        · have := RTk_lt x.1 q; omega
        · exact q
      have n3 : ¬ T1 0 19 = 1 := by rw [← x.1.2.2.1, hk]; decide
      refine V_aload_n (pc := 67) (i := 0) dX12_readExpression_67 rfl rfl ?_
      refine V_ldcSW (pc := 68) (i := 39) dX12_readExpression_68 rfl ?_
      refine V_V1i (pc := 71) dX12_readExpression_71 cX12_206 (by first | assumption | rfl) (X12_is (d := 4) rfl x.1.2.1 x.2.1 (by omega)) (Nat.le_of_ble_eq_true rfl) (by omega) (Nat.le_of_ble_eq_true rfl) ?_
      refine V_if_eq (pc := 74) 95 dX12_readExpression_74 rfl (fun _ => ?_) (fun c => absurd (show b2i (mWrd T1 (tL S1) (tP S1) (tE S1) lOr) = 0 by unfold mWrd; rw [decide_eq_false n3]; rfl) c)
      exact VX_ret (pc := 95) dX12_readExpression_95 rfl (XQ_t rfl x)
    | succ m ih =>
      intro S1 T1 z hm x
      rw [opsF]
      have hop : opH S1 0 = if wrd S1 lOr then 10008 else -1 := rfl
      refine V_aload_n (pc := 67) (i := 0) dX12_readExpression_67 rfl rfl ?_
      refine V_ldcSW (pc := 68) (i := 39) dX12_readExpression_68 rfl ?_
      refine V_V1i (pc := 71) dX12_readExpression_71 cX12_206 (by first | assumption | rfl) (X12_is (d := 4) rfl x.1.2.1 x.2.1 (by omega)) (Nat.le_of_ble_eq_true rfl) (by omega) (Nat.le_of_ble_eq_true rfl) ?_
      refine V_if_eq (pc := 74) 95 dX12_readExpression_74 rfl (fun c74 => ?_) (fun c74 => ?_)
      · have s2 : wrd S1 lOr = false := by rw [RTk_wrd x.1]; exact b2i_0.mp c74
        have e : opH S1 0 = -1 := by rw [hop, s2]; rfl
        rw [if_pos e]
        exact VX_ret (pc := 95) dX12_readExpression_95 rfl (XQ_t rfl x)
      · have s2 : wrd S1 lOr = true := by rw [RTk_wrd x.1]; exact b2i_n0.mp c74
        have ho : opH S1 0 = 10008 := by rw [hop, if_pos s2]
        have hk : ¬ S1 2 6 = 0 := fun q => by unfold wrd at s2; rw [q] at s2; simp at s2
        rw [ho, if_neg (by decide)]
        obtain ⟨p2, lt2⟩ := Pre_adv x.pre hk
        refine V_aload_n (pc := 77) (i := 0) dX12_readExpression_77 rfl rfl ?_
        refine V_V0v (pc := 78) dX12_readExpression_78 cX12_217 (by first | assumption | rfl) (X12_step (d := 1) x.1.2.1 hb (by omega)) (Nat.le_of_ble_eq_true rfl) (by omega) (Nat.le_of_ble_eq_true rfl) ?_
        refine V_aload_n (pc := 81) (i := 0) dX12_readExpression_81 rfl rfl ?_
        refine V_iload_n (pc := 82) (i := 1) dX12_readExpression_82 rfl rfl ?_
        refine V_X1 (pc := 83) dX12_readExpression_83 cX12_255 rfl (hC (adv S1) (mAd S1 T1) dd (Nat.le_refl _) p2) (Nat.le_of_ble_eq_true rfl) (by omega) (Nat.le_of_ble_eq_true rfl) (fun T3 q3 => ?_)
        rcases XQ_E q3 with ⟨e, y⟩ | ⟨e, y, ey⟩
        · obtain ⟨r3, k1, k2, k3⟩ := XOk_op (op := 10008) x hk y (Nat.le_refl _) (by unfold binO; simp)
          rw [if_pos e]
          refine V_aload_n (pc := 86) (i := 0) dX12_readExpression_86 rfl rfl ?_
          refine V_bipush (pc := 87) (v := -27) dX12_readExpression_87 (by decide) ?_
          refine V_V1v (pc := 89) dX12_readExpression_89 cX12_226 (by first | assumption | rfl) (X12_lay (d := 0) k1 k2 y.2.1 _ hb) (Nat.le_of_ble_eq_true rfl) (by omega) (Nat.le_of_ble_eq_true rfl) ?_
          refine V_goto (pc := 92) 67 dX12_readExpression_92 rfl ?_
          have hP : tP (adv S1) ≤ tP (R (adv S1)).2 := by
            obtain ⟨c1, c2, c3, c4, q, r3, d1, d2, d3, d4, d5, d6, d7, -⟩ := y
            omega
          exact ih _ _ _ (by rw [show tP (raS (R (adv S1)).2 t 10008) = tP (R (adv S1)).2 by unfold tP; rw [raS_off (by have := x.2.2.2.1; omega) (by have := x.2.2.2.1; omega)]]; omega) k3
        · rw [if_neg (by rw [e]; decide)]
          refine V_aload_n (pc := 86) (i := 0) dX12_readExpression_86 rfl rfl ?_
          refine V_bipush (pc := 87) (v := -27) dX12_readExpression_87 (by decide) ?_
          refine V_V1v (pc := 89) dX12_readExpression_89 cX12_226 (by first | assumption | rfl) (X12_lay_bad (d := 0) y.1 _) (Nat.le_of_ble_eq_true rfl) (by omega) (Nat.le_of_ble_eq_true rfl) ?_
          refine V_goto (pc := 92) 67 dX12_readExpression_92 rfl ?_
          exact X12_readExpression_67 y.1 _ _ ⟨rfl, T3, rfl, XQ_f rfl y ((x.2.2.1.trans EX_step).trans ey)⟩ (by omega)
  have may : ∀ m : Bool, m = stS S → V G mX12_readExpression d 0 0 (xXm G b h0 (XQ (D + 1) S T t (rowR t 0 R 700 (0, S)))) 38 [some (.ref (b + 0)), some (.int (nI w)), none] [.int (b2i m)] (wH G b tbM T h0) := by
    intro m hm
    refine V_istore_n (pc := 38) (i := 2) dX12_readExpression_38 rfl (by decide) rfl ?_
    refine V_iload_n (pc := 39) (i := 2) dX12_readExpression_39 rfl rfl ?_
    refine V_if_ne (pc := 40) 51 dX12_readExpression_40 rfl (fun c40 => ?_) (fun c40 => ?_)
    · have hst : stS S = true := hm.symm.trans (b2i_n0.mp c40)
      rw [rowR_0]
      refine V_iload_n (pc := 51) (i := 1) dX12_readExpression_51 rfl rfl ?_
      refine V_bipush (pc := 52) (v := 6) dX12_readExpression_52 (by decide) ?_
      refine V_icmp_ne (pc := 54) 62 dX12_readExpression_54 rfl (fun _ => ?_) (fun c => absurd ((nI_eq (b := 6) (by omega) (by decide)).mp c) (by omega))
      refine V_aload_n (pc := 62) (i := 0) dX12_readExpression_62 rfl rfl ?_
      refine V_iload_n (pc := 63) (i := 1) dX12_readExpression_63 rfl rfl ?_
      refine V_X1 (pc := 64) dX12_readExpression_64 cX12_255 rfl (hC S T dd (Nat.le_refl _) p) (Nat.le_of_ble_eq_true rfl) (by omega) (Nat.le_of_ble_eq_true rfl) (fun T1 q1 => ?_)
      rcases XQ_E q1 with ⟨e, y⟩ | ⟨e, y, ey⟩
      · rw [if_pos e]
        exact loop 700 _ _ _ (by omega) (y.mono (by omega))
      · rw [if_neg (by rw [e]; decide)]
        exact X12_readExpression_67 y.1 _ _ ⟨rfl, T1, rfl, XQ_f rfl y ey⟩ (by omega)
    · have hst : stS S = false := hm.symm.trans (b2i_0.mp c40)
      rw [hR S hst]
      refine V_aload_n (pc := 43) (i := 0) dX12_readExpression_43 rfl rfl ?_
      refine V_iconst (pc := 44) (v := 1) dX12_readExpression_44 (by decide) ?_
      refine V_V1v (pc := 45) dX12_readExpression_45 cX12_213 (by first | assumption | rfl) (X12_wrong_ok (d := 0) p.2.1 _ hb) (Nat.le_of_ble_eq_true rfl) (by omega) (Nat.le_of_ble_eq_true rfl) ?_
      refine V_goto (pc := 48) 62 dX12_readExpression_48 rfl ?_
      refine V_aload_n (pc := 62) (i := 0) dX12_readExpression_62 rfl rfl ?_
      refine V_iload_n (pc := 63) (i := 1) dX12_readExpression_63 rfl rfl ?_
      refine V_V1v (pc := 64) dX12_readExpression_64 cX12_255 (by first | assumption | rfl) (X12_readAnd_bad (d := 4) (wrg_23 (k := 1) (by decide)) _ (by omega)) (Nat.le_of_ble_eq_true rfl) (by omega) (Nat.le_of_ble_eq_true rfl) ?_
      exact X12_readExpression_67 (wrg_23 (k := 1) (by decide)) _ _ ⟨rfl, _, rfl, XQ_f rfl (RB_wrg p.1 (by decide)) EX_wrg⟩ (by omega)
  refine V_aload_n (pc := 0) (i := 0) dX12_readExpression_0 rfl rfl ?_
  refine VW_getI (pc := 1) dX12_readExpression_1 fX12_192 (by first | assumption | rfl) rfl ?_
  refine V_if_eq (pc := 4) 8 dX12_readExpression_4 rfl (fun _ => ?_) (fun c => absurd p.2.1 c)
  refine V_aload_n (pc := 8) (i := 0) dX12_readExpression_8 rfl rfl ?_
  refine VW_getI (pc := 9) dX12_readExpression_9 fX12_166 (by first | assumption | rfl) rfl ?_
  refine V_iconst (pc := 12) (v := 2) dX12_readExpression_12 (by decide) ?_
  refine V_icmp_eq (pc := 13) 33 dX12_readExpression_13 rfl (fun c13 => ?_) (fun c13 => ?_)
  · refine V_iconst (pc := 33) (v := 1) dX12_readExpression_33 (by decide) ?_
    refine V_goto (pc := 34) 38 dX12_readExpression_34 rfl ?_
    exact may true (by unfold stS; rw [p.1.2.2.1, decide_eq_true c13]; rfl)
  · refine V_aload_n (pc := 16) (i := 0) dX12_readExpression_16 rfl rfl ?_
    refine VW_getI (pc := 17) dX12_readExpression_17 fX12_166 (by first | assumption | rfl) rfl ?_
    refine V_iconst (pc := 20) (v := 1) dX12_readExpression_20 (by decide) ?_
    refine V_icmp_eq (pc := 21) 33 dX12_readExpression_21 rfl (fun c21 => ?_) (fun c21 => ?_)
    · refine V_iconst (pc := 33) (v := 1) dX12_readExpression_33 (by decide) ?_
      refine V_goto (pc := 34) 38 dX12_readExpression_34 rfl ?_
      exact may true (by unfold stS; rw [p.1.2.2.1, decide_eq_true c21, Bool.or_true]; rfl)
    · refine V_aload_n (pc := 24) (i := 0) dX12_readExpression_24 rfl rfl ?_
      refine V_bipush (pc := 25) (v := 40) dX12_readExpression_25 (by decide) ?_
      refine V_V1i (pc := 27) dX12_readExpression_27 cX12_210 (by first | assumption | rfl) (X12_isMarked (d := 0) p.1.2.1 p.2.1 _) (Nat.le_of_ble_eq_true rfl) (by omega) (Nat.le_of_ble_eq_true rfl) ?_
      rw [← RTk_sgn p.1]
      refine V_if_eq (pc := 30) 37 dX12_readExpression_30 rfl (fun c30 => ?_) (fun c30 => ?_)
      · refine V_iconst (pc := 37) (v := 0) dX12_readExpression_37 (by decide) ?_
        exact may false (by unfold stS; rw [p.1.2.2.1, decide_eq_false c13, decide_eq_false c21, b2i_0.mp c30]; rfl)
      · refine V_iconst (pc := 33) (v := 1) dX12_readExpression_33 (by decide) ?_
        refine V_goto (pc := 34) 38 dX12_readExpression_34 rfl ?_
        exact may true (by unfold stS; rw [b2i_n0.mp c30, Bool.or_true])
/-- no more EXPRS may stand within -/
theorem X12_readExpr0 (hb : gB G ≤ b) : XC G b h0 mX12_readExpression 0 6 6 t (exF t 0) := by
  intro S T d hd p
  refine VM_start (ls := [some (.ref (b + 0)), some (.int (nI 6)), none]) rfl ?_
  -- %m X12_readExpression
  rw [exF]
  have may : ∀ m : Bool, m = stS S → V G mX12_readExpression d 0 0 (xXm G b h0 (XQ 0 S T t (if stS S then (false, rfs S 2) else (false, rfs S 1)))) 38 [some (.ref (b + 0)), some (.int (nI 6)), none] [.int (b2i m)] (wH G b tbM T h0) := by
    intro m hm
    rw [← hm]
    refine V_istore_n (pc := 38) (i := 2) dX12_readExpression_38 rfl (by decide) rfl ?_
    refine V_iload_n (pc := 39) (i := 2) dX12_readExpression_39 rfl rfl ?_
    refine V_if_ne (pc := 40) 51 dX12_readExpression_40 rfl (fun c40 => ?_) (fun c40 => ?_)
    · rw [if_pos (b2i_n0.mp c40)]
      refine V_iload_n (pc := 51) (i := 1) dX12_readExpression_51 rfl rfl ?_
      refine V_bipush (pc := 52) (v := 6) dX12_readExpression_52 (by decide) ?_
      refine V_icmp_ne (pc := 54) 62 dX12_readExpression_54 rfl (fun c => absurd rfl c) (fun _ => ?_)
      refine V_aload_n (pc := 57) (i := 0) dX12_readExpression_57 rfl rfl ?_
      refine V_iconst (pc := 58) (v := 2) dX12_readExpression_58 (by decide) ?_
      refine V_V1v (pc := 59) dX12_readExpression_59 cX12_213 (by first | assumption | rfl) (X12_wrong_ok (d := 0) p.2.1 _ hb) (Nat.le_of_ble_eq_true rfl) (by omega) (Nat.le_of_ble_eq_true rfl) ?_
      refine V_aload_n (pc := 62) (i := 0) dX12_readExpression_62 rfl rfl ?_
      refine V_iload_n (pc := 63) (i := 1) dX12_readExpression_63 rfl rfl ?_
      refine V_V1v (pc := 64) dX12_readExpression_64 cX12_255 (by first | assumption | rfl) (X12_readAnd_bad (d := 4) (wrg_23 (k := 2) (by decide)) _ (by omega)) (Nat.le_of_ble_eq_true rfl) (by omega) (Nat.le_of_ble_eq_true rfl) ?_
      exact X12_readExpression_67 (wrg_23 (k := 2) (by decide)) _ _ ⟨rfl, _, rfl, XQ_f rfl (RB_wrg p.1 (by decide)) EX_wrg⟩ (by omega)
    · rw [if_neg (by rw [b2i_0.mp c40]; decide)]
      refine V_aload_n (pc := 43) (i := 0) dX12_readExpression_43 rfl rfl ?_
      refine V_iconst (pc := 44) (v := 1) dX12_readExpression_44 (by decide) ?_
      refine V_V1v (pc := 45) dX12_readExpression_45 cX12_213 (by first | assumption | rfl) (X12_wrong_ok (d := 0) p.2.1 _ hb) (Nat.le_of_ble_eq_true rfl) (by omega) (Nat.le_of_ble_eq_true rfl) ?_
      refine V_goto (pc := 48) 62 dX12_readExpression_48 rfl ?_
      refine V_aload_n (pc := 62) (i := 0) dX12_readExpression_62 rfl rfl ?_
      refine V_iload_n (pc := 63) (i := 1) dX12_readExpression_63 rfl rfl ?_
      refine V_V1v (pc := 64) dX12_readExpression_64 cX12_255 (by first | assumption | rfl) (X12_readAnd_bad (d := 4) (wrg_23 (k := 1) (by decide)) _ (by omega)) (Nat.le_of_ble_eq_true rfl) (by omega) (Nat.le_of_ble_eq_true rfl) ?_
      exact X12_readExpression_67 (wrg_23 (k := 1) (by decide)) _ _ ⟨rfl, _, rfl, XQ_f rfl (RB_wrg p.1 (by decide)) EX_wrg⟩ (by omega)
  refine V_aload_n (pc := 0) (i := 0) dX12_readExpression_0 rfl rfl ?_
  refine VW_getI (pc := 1) dX12_readExpression_1 fX12_192 (by first | assumption | rfl) rfl ?_
  refine V_if_eq (pc := 4) 8 dX12_readExpression_4 rfl (fun _ => ?_) (fun c => absurd p.2.1 c)
  refine V_aload_n (pc := 8) (i := 0) dX12_readExpression_8 rfl rfl ?_
  refine VW_getI (pc := 9) dX12_readExpression_9 fX12_166 (by first | assumption | rfl) rfl ?_
  refine V_iconst (pc := 12) (v := 2) dX12_readExpression_12 (by decide) ?_
  refine V_icmp_eq (pc := 13) 33 dX12_readExpression_13 rfl (fun c13 => ?_) (fun c13 => ?_)
  · refine V_iconst (pc := 33) (v := 1) dX12_readExpression_33 (by decide) ?_
    refine V_goto (pc := 34) 38 dX12_readExpression_34 rfl ?_
    exact may true (by unfold stS; rw [p.1.2.2.1, decide_eq_true c13]; rfl)
  · refine V_aload_n (pc := 16) (i := 0) dX12_readExpression_16 rfl rfl ?_
    refine VW_getI (pc := 17) dX12_readExpression_17 fX12_166 (by first | assumption | rfl) rfl ?_
    refine V_iconst (pc := 20) (v := 1) dX12_readExpression_20 (by decide) ?_
    refine V_icmp_eq (pc := 21) 33 dX12_readExpression_21 rfl (fun c21 => ?_) (fun c21 => ?_)
    · refine V_iconst (pc := 33) (v := 1) dX12_readExpression_33 (by decide) ?_
      refine V_goto (pc := 34) 38 dX12_readExpression_34 rfl ?_
      exact may true (by unfold stS; rw [p.1.2.2.1, decide_eq_true c21, Bool.or_true]; rfl)
    · refine V_aload_n (pc := 24) (i := 0) dX12_readExpression_24 rfl rfl ?_
      refine V_bipush (pc := 25) (v := 40) dX12_readExpression_25 (by decide) ?_
      refine V_V1i (pc := 27) dX12_readExpression_27 cX12_210 (by first | assumption | rfl) (X12_isMarked (d := 0) p.1.2.1 p.2.1 _) (Nat.le_of_ble_eq_true rfl) (by omega) (Nat.le_of_ble_eq_true rfl) ?_
      rw [← RTk_sgn p.1]
      refine V_if_eq (pc := 30) 37 dX12_readExpression_30 rfl (fun c30 => ?_) (fun c30 => ?_)
      · refine V_iconst (pc := 37) (v := 0) dX12_readExpression_37 (by decide) ?_
        exact may false (by unfold stS; rw [p.1.2.2.1, decide_eq_false c13, decide_eq_false c21, b2i_0.mp c30]; rfl)
      · refine V_iconst (pc := 33) (v := 1) dX12_readExpression_33 (by decide) ?_
        refine V_goto (pc := 34) 38 dX12_readExpression_34 rfl ?_
        exact may true (by unfold stS; rw [b2i_n0.mp c30, Bool.or_true])
end P6
