/-! ===== Walk: who wants, a SUNDAY ===== -/
section Wk4
variable {G : xG} {d bc bs : Nat} {b : Nat} {S : Nat → Nat → Int32} {h0 h : xH}
theorem wkVals_off {q k : Nat} (h : k ≠ 67) : wkVals S q k = S k := by
  simp (disch := omega) only [wkVals, up2_row]
theorem wkWants_off {s r q k : Nat} (h : k ≠ 67) (h2 : k ≠ s + 8) : (wkWants S s r q).2 k = S k := by
  unfold wkWants
  split
  · show upR _ _ _ k = _
    rw [upR_row h2, wkVals_off h]
  · rfl
/-- who wants to cross: m from q on, x so far; the state then -/
def wkWho (s r : Nat) : Nat → Nat → Int32 → (Nat → Nat → Int32) → Int32 × (Nat → Nat → Int32)
  | 0, _, x, S => (x, S)
  | m + 1, q, x, S => wkWho s r m (q + 1) (if (wkWants S s r q).1 then x ||| 1 <<< (nI q &&& 31) else x) (wkWants S s r q).2
theorem wkWho_off {s r k : Nat} (h : k ≠ 67) (h2 : k ≠ s + 8) : ∀ (m q : Nat) (x : Int32) (S : Nat → Nat → Int32), (wkWho s r m q x S).2 k = S k := by
  intro m
  induction m with
  | zero => intro q x S; rfl
  | succ m ih => intro q x S; rw [wkWho, ih, wkWants_off h h2]
theorem X10_whoWants {s r pp : Nat} (hsh : shC (S 57 6) = s) (hp : S s 7 = nI pp) (h8 : pp ≤ 8) (hr : S (s + 6) 2 = nI r) (h7 : r ≤ 700) (hb : gB G ≤ b) (hd : 3 ≤ d) : VM G mX10_whoWants d 0 0 [.ref (b + 57)] (xE (some (.int (wkWho s r pp 0 0 S).1)) (wH G b tbC (wkWho s r pp 0 0 S).2 h0)) (wH G b tbC S h0) := by
  have hs := shC_or (S 57 6)
  have hS := tbC_shore (S 57 6)
  rw [hsh] at hs hS
  obtain ⟨a0, -⟩ := id hS
  refine VM_start (ls := [some (.ref (b + 57)), none, none]) rfl ?_
  -- %m X10_whoWants
  refine V_iconst (pc := 0) (v := 0) dX10_whoWants_0 (by decide) ?_
  refine V_istore_n (pc := 1) (i := 1) dX10_whoWants_1 rfl (by decide) rfl ?_
  refine V_iconst (pc := 2) (v := 0) dX10_whoWants_2 (by decide) ?_
  refine V_istore_n (pc := 3) (i := 2) dX10_whoWants_3 rfl (by decide) rfl ?_
  have loop : ∀ (m q : Nat) (x : Int32) (S : Nat → Nat → Int32), m + q = pp → shC (S 57 6) = s → S s 7 = nI pp → S (s + 6) 2 = nI r → V G mX10_whoWants d 0 0 (xE (some (.int (wkWho s r m q x S).1)) (wH G b tbC (wkWho s r m q x S).2 h0)) 4 [some (.ref (b + 57)), some (.int x), some (.int (nI q))] [] (wH G b tbC S h0) := by
    intro m
    induction m with
    | zero =>
      intro q x S hm hsh hp hr
      refine V_iload_n (pc := 4) (i := 2) dX10_whoWants_4 rfl rfl ?_
      refine V_aload_n (pc := 5) (i := 0) dX10_whoWants_5 rfl rfl ?_
      refine VW_getWs (pc := 6) dX10_whoWants_6 fX10_40 (by first | assumption | rfl) rfl (by first | assumption | (simp (disch := omega) only [up2_row, up2_col, up2_same, upR_row]; assumption)) ?_
      refine VW_getI (pc := 9) dX10_whoWants_9 fX10_48 (by first | assumption | rfl) rfl ?_
      refine V_icmp_ge (pc := 12) 35 dX10_whoWants_12 rfl (fun c12 => ?_) (fun c12 => ?_)
      · refine V_iload_n (pc := 35) (i := 1) dX10_whoWants_35 rfl rfl ?_
        exact VE_iret (pc := 36) dX10_whoWants_36 rfl rfl rfl
      · exact absurd (by rw [hp, show q = pp by omega]; exact nI_le (by omega) (by omega)) c12
    | succ m ih =>
      intro q x S hm hsh hp hr
      rw [wkWho]
      have e1 : shC ((wkWants S s r q).2 57 6) = s := by rw [wkWants_off (by omega) (by omega)]; exact hsh
      have e2 : (wkWants S s r q).2 s 7 = nI pp := by rw [wkWants_off (by omega) (by omega)]; exact hp
      have e3 : (wkWants S s r q).2 (s + 6) 2 = nI r := by rw [wkWants_off (by omega) (by omega)]; exact hr
      refine V_iload_n (pc := 4) (i := 2) dX10_whoWants_4 rfl rfl ?_
      refine V_aload_n (pc := 5) (i := 0) dX10_whoWants_5 rfl rfl ?_
      refine VW_getWs (pc := 6) dX10_whoWants_6 fX10_40 (by first | assumption | rfl) rfl (by first | assumption | (simp (disch := omega) only [up2_row, up2_col, up2_same, upR_row]; assumption)) ?_
      refine VW_getI (pc := 9) dX10_whoWants_9 fX10_48 (by first | assumption | rfl) rfl ?_
      refine V_icmp_ge (pc := 12) 35 dX10_whoWants_12 rfl (fun c12 => ?_) (fun c12 => ?_)
      · exact absurd c12 (by rw [hp]; exact nI_ge (by omega) (by omega))
      · refine V_aload_n (pc := 15) (i := 0) dX10_whoWants_15 rfl rfl ?_
        refine V_iload_n (pc := 16) (i := 2) dX10_whoWants_16 rfl rfl ?_
        refine V_V1i (pc := 17) dX10_whoWants_17 cX10_97 (by first | assumption | rfl) (X10_wants (d := 2) hsh hr h7 (by omega) hb (by omega)) (Nat.le_of_ble_eq_true rfl) (by omega) (Nat.le_of_ble_eq_true rfl) ?_
        refine V_if_eq (pc := 20) 29 dX10_whoWants_20 rfl (fun c20 => ?_) (fun c20 => ?_)
        · rw [if_neg (by rw [b2i_0.mp c20]; decide)]
          refine V_iinc (pc := 29) dX10_whoWants_29 (by decide) rfl rfl (iincN (n := 1) (by decide)) ?_
          refine V_goto (pc := 32) 4 dX10_whoWants_32 rfl ?_
          exact ih (q + 1) _ _ (by omega) e1 e2 e3
        · rw [if_pos (b2i_n0.mp c20)]
          refine V_iload_n (pc := 23) (i := 1) dX10_whoWants_23 rfl rfl ?_
          refine V_iconst (pc := 24) (v := 1) dX10_whoWants_24 (by decide) ?_
          refine V_iload_n (pc := 25) (i := 2) dX10_whoWants_25 rfl rfl ?_
          refine V_ishl (pc := 26) dX10_whoWants_26 ?_
          refine V_ior (pc := 27) dX10_whoWants_27 ?_
          refine V_istore_n (pc := 28) (i := 1) dX10_whoWants_28 rfl (by decide) rfl ?_
          refine V_iinc (pc := 29) dX10_whoWants_29 (by decide) rfl rfl (iincN (n := 1) (by decide)) ?_
          refine V_goto (pc := 32) 4 dX10_whoWants_32 rfl ?_
          exact ih (q + 1) _ _ (by omega) e1 e2 e3
  exact loop pp 0 0 S rfl hsh hp hr
/-- those who cross, and those who stay: m from q on -/
def wkPers : Nat → Nat → (Nat → Nat → Int32) → Nat → Nat → Int32
  | 0, _, S => S
  | m + 1, q, S => wkPers m (q + 1) (if hasB (S 58 7) (nI q) then wkCross S q else wkStay S q)
theorem wkCross_off {q k : Nat} (h : k ≠ 61) (h2 : k ≠ 62) : wkCross S q k = S k := by
  unfold wkCross
  split <;> simp (disch := omega) only [up2_row]
theorem wkStay_off {q k : Nat} (h : k ≠ 61) : wkStay S q k = S k := by
  simp (disch := omega) only [wkStay, up2_row]
theorem wkPers_off {k : Nat} (h : k ≠ 61) (h2 : k ≠ 62) : ∀ (m q : Nat) (S : Nat → Nat → Int32), wkPers m q S k = S k := by
  intro m
  induction m with
  | zero => intro q S; rfl
  | succ m ih =>
    intro q S
    rw [wkPers, ih]
    split
    · exact wkCross_off h h2
    · exact wkStay_off h
/-- who has said what, ahead of those who go -/
def wkWho2 (S : Nat → Nat → Int32) (s r pp : Nat) : Nat → Nat → Int32 := up2 (wkWho s r pp 0 0 S).2 57 7 (wkWho s r pp 0 0 S).1
def wkGo (S : Nat → Nat → Int32) (pp bb : Nat) : Nat → Nat → Int32 := up2 S 58 7 (S 57 7 &&& (wgF (fun x => mlF (S 61) x pp 0 (-1)) bb (S 57 7) ^^^ -1))
/-- a SUNDAY -/
def wkStep (S : Nat → Nat → Int32) (s r pp bb : Nat) : Nat → Nat → Int32 := up2 (wkPers pp 0 (wkGo (wkWho2 S s r pp) pp bb)) 58 6 (wkPers pp 0 (wkGo (wkWho2 S s r pp) pp bb) 58 6 + 1)
theorem X10_step {s r pp bb : Nat} (hsh : shC (S 57 6) = s) (hp : S s 7 = nI pp) (h8 : pp ≤ 8) (hr : S (s + 6) 2 = nI r) (h7 : r ≤ 700) (hbb : S 58 5 = nI bb) (hb8 : bb ≤ 8) (hb : gB G ≤ b) (hd : 4 ≤ d) : VM G mX10_step d 0 0 [.ref (b + 57)] (xE none (wH G b tbC (wkStep S s r pp bb) h0)) (wH G b tbC S h0) := by
  have hs := shC_or (S 57 6)
  have hS := tbC_shore (S 57 6)
  rw [hsh] at hs hS
  obtain ⟨a0, -⟩ := id hS
  refine VM_start (ls := [some (.ref (b + 57)), none]) rfl ?_
  -- %m X10_step
  refine V_aload_n (pc := 0) (i := 0) dX10_step_0 rfl rfl ?_
  refine V_aload_n (pc := 1) (i := 0) dX10_step_1 rfl rfl ?_
  refine V_V0i (pc := 2) dX10_step_2 cX10_78 (by first | assumption | rfl) (X10_whoWants (d := 3) hsh hp h8 hr h7 hb (by omega)) (Nat.le_of_ble_eq_true rfl) (by omega) (Nat.le_of_ble_eq_true rfl) ?_
  refine VW_putI (pc := 5) dX10_step_5 fX10_36 ftX10 (fpI rfl rfl (tyX10_ok 7 (by decide))) (by first | assumption | rfl) rfl (by assumption) ?_
  have g1 : shC (wkWho2 S s r pp 57 6) = s := by rw [wkWho2, up2_col (by decide), wkWho_off (by omega) (by omega)]; exact hsh
  have g2 : wkWho2 S s r pp s 7 = nI pp := by rw [wkWho2, up2_row (by omega), wkWho_off (by omega) (by omega)]; exact hp
  have g3 : wkWho2 S s r pp 58 5 = nI bb := by rw [wkWho2, up2_row (by omega), wkWho_off (by omega) (by omega)]; exact hbb
  show V G mX10_step d 0 0 _ 8 _ _ (wH G b tbC (wkWho2 S s r pp) h0)
  rw [wkStep]
  generalize wkWho2 S s r pp = T at g1 g2 g3
  refine V_aload_n (pc := 8) (i := 0) dX10_step_8 rfl rfl ?_
  refine VW_getR (pc := 9) dX10_step_9 fX10_12 (by first | assumption | rfl) rfl ?_
  refine V_aload_n (pc := 12) (i := 0) dX10_step_12 rfl rfl ?_
  refine V_V0i (pc := 13) dX10_step_13 cX10_82 (by first | assumption | rfl) (X10_whoGoes (d := 2) g1 g2 h8 g3 hb8 (by omega)) (Nat.le_of_ble_eq_true rfl) (by omega) (Nat.le_of_ble_eq_true rfl) ?_
  refine VW_putI (pc := 16) dX10_step_16 fX10_85 ftX8 (fpI rfl rfl (tyX8_ok 7 (by decide))) (by first | assumption | rfl) rfl (by assumption) ?_
  refine V_iconst (pc := 19) (v := 0) dX10_step_19 (by decide) ?_
  refine V_istore_n (pc := 20) (i := 1) dX10_step_20 rfl (by decide) rfl ?_
  have k1 : shC (wkGo T pp bb 57 6) = s := by rw [wkGo, up2_row (by decide)]; exact g1
  have k2 : wkGo T pp bb s 7 = nI pp := by rw [wkGo, up2_row (by omega)]; exact g2
  show V G mX10_step d 0 0 _ 21 [some (.ref (b + 57)), some (.int (nI 0))] [] (wH G b tbC (wkGo T pp bb) h0)
  generalize wkGo T pp bb = U at k1 k2
  have loop : ∀ (m q : Nat) (U : Nat → Nat → Int32), m + q = pp → shC (U 57 6) = s → U s 7 = nI pp → V G mX10_step d 0 0 (xE none (wH G b tbC (up2 (wkPers m q U) 58 6 (wkPers m q U 58 6 + 1)) h0)) 21 [some (.ref (b + 57)), some (.int (nI q))] [] (wH G b tbC U h0) := by
    intro m
    induction m with
    | zero =>
      intro q U hm hsh hp
      refine V_iload_n (pc := 21) (i := 1) dX10_step_21 rfl rfl ?_
      refine V_aload_n (pc := 22) (i := 0) dX10_step_22 rfl rfl ?_
      refine VW_getWs (pc := 23) dX10_step_23 fX10_40 (by first | assumption | rfl) rfl (by first | assumption | (simp (disch := omega) only [up2_row, up2_col, up2_same, upR_row]; assumption)) ?_
      refine VW_getI (pc := 26) dX10_step_26 fX10_48 (by first | assumption | rfl) rfl ?_
      refine V_icmp_ge (pc := 29) 65 dX10_step_29 rfl (fun c29 => ?_) (fun c29 => ?_)
      · refine V_aload_n (pc := 65) (i := 0) dX10_step_65 rfl rfl ?_
        refine VW_getR (pc := 66) dX10_step_66 fX10_12 (by first | assumption | rfl) rfl ?_
        refine V_dup (pc := 69) dX10_step_69 rfl ?_
        refine VW_getI (pc := 70) dX10_step_70 fX10_94 (by first | assumption | rfl) rfl ?_
        refine V_iconst (pc := 73) (v := 1) dX10_step_73 (by decide) ?_
        refine V_iadd (pc := 74) dX10_step_74 ?_
        refine VW_putI (pc := 75) dX10_step_75 fX10_94 ftX8 (fpI rfl rfl (tyX8_ok 6 (by decide))) (by first | assumption | rfl) rfl (by assumption) ?_
        exact VE_vret (pc := 78) dX10_step_78 rfl rfl
      · exact absurd (by rw [hp, show q = pp by omega]; exact nI_le (by omega) (by omega)) c29
    | succ m ih =>
      intro q U hm hsh hp
      rw [wkPers]
      refine V_iload_n (pc := 21) (i := 1) dX10_step_21 rfl rfl ?_
      refine V_aload_n (pc := 22) (i := 0) dX10_step_22 rfl rfl ?_
      refine VW_getWs (pc := 23) dX10_step_23 fX10_40 (by first | assumption | rfl) rfl (by first | assumption | (simp (disch := omega) only [up2_row, up2_col, up2_same, upR_row]; assumption)) ?_
      refine VW_getI (pc := 26) dX10_step_26 fX10_48 (by first | assumption | rfl) rfl ?_
      refine V_icmp_ge (pc := 29) 65 dX10_step_29 rfl (fun c29 => ?_) (fun c29 => ?_)
      · exact absurd c29 (by rw [hp]; exact nI_ge (by omega) (by omega))
      · refine V_iload_n (pc := 32) (i := 1) dX10_step_32 rfl rfl ?_
        refine V_aload_n (pc := 33) (i := 0) dX10_step_33 rfl rfl ?_
        refine VW_getR (pc := 34) dX10_step_34 fX10_12 (by first | assumption | rfl) rfl ?_
        refine VW_getI (pc := 37) dX10_step_37 fX10_85 (by first | assumption | rfl) rfl ?_
        refine V_SN2i (pc := 40) dX10_step_40 cX10_74 (X11_isIn (d := 0) _ _) (Nat.le_of_ble_eq_true rfl) (by omega) (Nat.le_of_ble_eq_true rfl) ?_
        refine V_if_eq (pc := 43) 54 dX10_step_43 rfl (fun c43 => ?_) (fun c43 => ?_)
        · rw [if_neg (by rw [b2i_0.mp c43]; decide)]
          refine V_aload_n (pc := 54) (i := 0) dX10_step_54 rfl rfl ?_
          refine V_iload_n (pc := 55) (i := 1) dX10_step_55 rfl rfl ?_
          refine V_V1v (pc := 56) dX10_step_56 cX10_91 (by first | assumption | rfl) (X10_stay (d := 2) (by omega) hb (by omega)) (Nat.le_of_ble_eq_true rfl) (by omega) (Nat.le_of_ble_eq_true rfl) ?_
          refine V_iinc (pc := 59) dX10_step_59 (by decide) rfl rfl (iincN (n := 1) (by decide)) ?_
          refine V_goto (pc := 62) 21 dX10_step_62 rfl ?_
          first
            | exact ih (q + 1) _ (by omega) (by rw [wkStay_off (by omega)]; exact hsh) (by rw [wkStay_off (by omega)]; exact hp)
            | exact ih (q + 1) _ (by omega) (by rw [wkCross_off (by omega) (by omega)]; exact hsh) (by rw [wkCross_off (by omega) (by omega)]; exact hp)
        · rw [if_pos (b2i_n0.mp c43)]
          refine V_aload_n (pc := 46) (i := 0) dX10_step_46 rfl rfl ?_
          refine V_iload_n (pc := 47) (i := 1) dX10_step_47 rfl rfl ?_
          refine V_V1v (pc := 48) dX10_step_48 cX10_88 (by first | assumption | rfl) (X10_cross (d := 2) (by omega) hb (by omega)) (Nat.le_of_ble_eq_true rfl) (by omega) (Nat.le_of_ble_eq_true rfl) ?_
          refine V_goto (pc := 51) 59 dX10_step_51 rfl ?_
          refine V_iinc (pc := 59) dX10_step_59 (by decide) rfl rfl (iincN (n := 1) (by decide)) ?_
          refine V_goto (pc := 62) 21 dX10_step_62 rfl ?_
          first
            | exact ih (q + 1) _ (by omega) (by rw [wkStay_off (by omega)]; exact hsh) (by rw [wkStay_off (by omega)]; exact hp)
            | exact ih (q + 1) _ (by omega) (by rw [wkCross_off (by omega) (by omega)]; exact hsh) (by rw [wkCross_off (by omega) (by omega)]; exact hp)
  exact loop pp 0 U rfl k1 k2
theorem X10_change {s n q : Nat} (kd : Int32) (hsh : shC (S 57 6) = s) (hn : S (s + 2) 4 = nI n) (h12 : n ≤ 12) (hq : q < 8) (x : Int32) (hb : gB G ≤ b) (hd : 5 ≤ d) : VM G mX10_change d 0 0 [.ref (b + 57), .int kd, .int (nI q), .int x] (xE none (wH G b tbC (wkSettle (if kd = 0 then up2 S 59 q (S 59 q ||| 1 <<< (x &&& 31)) else if kd = 1 then up2 S 59 q (S 59 q &&& (1 <<< (x &&& 31) ^^^ -1)) else up2 S 60 q x) s n q) h0)) (wH G b tbC S h0) := by
  have hs := shC_or (S 57 6)
  rw [hsh] at hs
  refine VM_start (ls := [some (.ref (b + 57)), some (.int kd), some (.int (nI q)), some (.int x)]) rfl ?_
  -- %m X10_change
  refine V_iload_n (pc := 0) (i := 1) dX10_change_0 rfl rfl ?_
  refine V_if_ne (pc := 1) 22 dX10_change_1 rfl (fun c1 => ?_) (fun c1 => ?_)
  · rw [if_neg c1]
    refine V_iload_n (pc := 22) (i := 1) dX10_change_22 rfl rfl ?_
    refine V_iconst (pc := 23) (v := 1) dX10_change_23 (by decide) ?_
    refine V_icmp_ne (pc := 24) 47 dX10_change_24 rfl (fun c24 => ?_) (fun c24 => ?_)
    · rw [if_neg c24]
      refine V_aload_n (pc := 47) (i := 0) dX10_change_47 rfl rfl ?_
      refine VW_getR (pc := 48) dX10_change_48 fX10_12 (by first | assumption | rfl) rfl ?_
      refine VW_getR (pc := 51) dX10_change_51 fX10_71 (by first | assumption | rfl) rfl ?_
      refine V_iload_n (pc := 54) (i := 2) dX10_change_54 rfl rfl ?_
      refine V_iload_n (pc := 55) (i := 3) dX10_change_55 rfl rfl ?_
      refine VW_iastN (pc := 56) dX10_change_56 (by first | assumption | rfl) (by assumption) rfl (by omega) (by first | decide | omega) ?_
      refine V_aload_n (pc := 57) (i := 0) dX10_change_57 rfl rfl ?_
      refine V_iload_n (pc := 58) (i := 2) dX10_change_58 rfl rfl ?_
      refine V_V1v (pc := 59) dX10_change_59 cX10_53 (by first | assumption | rfl) (X10_settle (s := s) (d := 4) (by rw [up2_row (by omega)]; exact hsh) (by rw [up2_row (by omega)]; exact hn) h12 hq hb (by omega)) (Nat.le_of_ble_eq_true rfl) (by omega) (Nat.le_of_ble_eq_true rfl) ?_
      exact VE_vret (pc := 62) dX10_change_62 rfl rfl
    · rw [if_pos c24]
      refine V_aload_n (pc := 27) (i := 0) dX10_change_27 rfl rfl ?_
      refine VW_getR (pc := 28) dX10_change_28 fX10_12 (by first | assumption | rfl) rfl ?_
      refine VW_getR (pc := 31) dX10_change_31 fX10_61 (by first | assumption | rfl) rfl ?_
      refine V_iload_n (pc := 34) (i := 2) dX10_change_34 rfl rfl ?_
      refine V_dup2 (pc := 35) dX10_change_35 rfl rfl ?_
      refine VW_ialdN (pc := 36) dX10_change_36 (by first | assumption | rfl) rfl (by omega) (by first | decide | omega) ?_
      refine V_iconst (pc := 37) (v := 1) dX10_change_37 (by decide) ?_
      refine V_iload_n (pc := 38) (i := 3) dX10_change_38 rfl rfl ?_
      refine V_ishl (pc := 39) dX10_change_39 ?_
      refine V_iconst (pc := 40) (v := -1) dX10_change_40 (by decide) ?_
      refine V_ixor (pc := 41) dX10_change_41 ?_
      refine V_iand (pc := 42) dX10_change_42 ?_
      refine VW_iastN (pc := 43) dX10_change_43 (by first | assumption | rfl) (by assumption) rfl (by omega) (by first | decide | omega) ?_
      refine V_goto (pc := 44) 57 dX10_change_44 rfl ?_
      refine V_aload_n (pc := 57) (i := 0) dX10_change_57 rfl rfl ?_
      refine V_iload_n (pc := 58) (i := 2) dX10_change_58 rfl rfl ?_
      refine V_V1v (pc := 59) dX10_change_59 cX10_53 (by first | assumption | rfl) (X10_settle (s := s) (d := 4) (by rw [up2_row (by omega)]; exact hsh) (by rw [up2_row (by omega)]; exact hn) h12 hq hb (by omega)) (Nat.le_of_ble_eq_true rfl) (by omega) (Nat.le_of_ble_eq_true rfl) ?_
      exact VE_vret (pc := 62) dX10_change_62 rfl rfl
  · rw [if_pos c1]
    refine V_aload_n (pc := 4) (i := 0) dX10_change_4 rfl rfl ?_
    refine VW_getR (pc := 5) dX10_change_5 fX10_12 (by first | assumption | rfl) rfl ?_
    refine VW_getR (pc := 8) dX10_change_8 fX10_61 (by first | assumption | rfl) rfl ?_
    refine V_iload_n (pc := 11) (i := 2) dX10_change_11 rfl rfl ?_
    refine V_dup2 (pc := 12) dX10_change_12 rfl rfl ?_
    refine VW_ialdN (pc := 13) dX10_change_13 (by first | assumption | rfl) rfl (by omega) (by first | decide | omega) ?_
    refine V_iconst (pc := 14) (v := 1) dX10_change_14 (by decide) ?_
    refine V_iload_n (pc := 15) (i := 3) dX10_change_15 rfl rfl ?_
    refine V_ishl (pc := 16) dX10_change_16 ?_
    refine V_ior (pc := 17) dX10_change_17 ?_
    refine VW_iastN (pc := 18) dX10_change_18 (by first | assumption | rfl) (by assumption) rfl (by omega) (by first | decide | omega) ?_
    refine V_goto (pc := 19) 57 dX10_change_19 rfl ?_
    refine V_aload_n (pc := 57) (i := 0) dX10_change_57 rfl rfl ?_
    refine V_iload_n (pc := 58) (i := 2) dX10_change_58 rfl rfl ?_
    refine V_V1v (pc := 59) dX10_change_59 cX10_53 (by first | assumption | rfl) (X10_settle (s := s) (d := 4) (by rw [up2_row (by omega)]; exact hsh) (by rw [up2_row (by omega)]; exact hn) h12 hq hb (by omega)) (Nat.le_of_ble_eq_true rfl) (by omega) (Nat.le_of_ble_eq_true rfl) ?_
    exact VE_vret (pc := 62) dX10_change_62 rfl rfl
end Wk4
