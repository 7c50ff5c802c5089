/-! ===== the model: refused arguments ===== -/
section MB
variable {G : xG} {d : Nat} {b : Nat} {S : Nat → Nat → Int32} {h0 h : xH}
theorem X12_apart_bad1 {pp : Nat} (hp : S 3 0 = nI pp) (h8 : pp ≤ 8) {x1 x2 : Int32} (hx : inR x1 0 (nI pp - 1) = false ∨ inR x2 0 (nI pp - 1) = false) (hb : gB G ≤ b) (hd : 2 ≤ d) : VM G mX12_apart d 0 0 [.ref (b + 0), .int x1, .int x2] (xE (some (.int 0)) (wH G b tbM (up2 (up2 S 0 2 0) 0 2 1) h0)) (wH G b tbM S h0) := by
  refine VM_start (ls := [some (.ref (b + 0)), some (.int x1), some (.int x2)]) rfl ?_
  -- %m X12_apart
  refine V_aload_n (pc := 0) (i := 0) dX12_apart_0 rfl rfl ?_
  refine V_iconst (pc := 1) (v := 0) dX12_apart_1 (by decide) ?_
  refine VW_putI (pc := 2) dX12_apart_2 fX12_139 ftX12 (fpI rfl rfl (tyX12_ok 2 (by decide))) (by first | assumption | rfl) rfl (by assumption) ?_
  refine V_aload_n (pc := 5) (i := 0) dX12_apart_5 rfl rfl ?_
  refine V_iload_n (pc := 6) (i := 1) dX12_apart_6 rfl rfl ?_
  refine V_V1i (pc := 7) dX12_apart_7 cX12_384 (by first | assumption | rfl) (X12_isPerson (d := 1) _ (by omega)) (Nat.le_of_ble_eq_true rfl) (by omega) (Nat.le_of_ble_eq_true rfl) ?_
  rw [up2_row (by decide), hp]
  refine V_if_eq (pc := 10) 38 dX12_apart_10 rfl (fun c10 => ?_) (fun c10 => ?_)
  · refine V_aload_n (pc := 38) (i := 0) dX12_apart_38 rfl rfl ?_
    refine V_iconst (pc := 39) (v := 1) dX12_apart_39 (by decide) ?_
    refine V_V1i (pc := 40) dX12_apart_40 cX12_287 (by first | assumption | rfl) (X12_fail (d := 0) 1 hb) (Nat.le_of_ble_eq_true rfl) (by omega) (Nat.le_of_ble_eq_true rfl) ?_
    exact VE_iret (pc := 43) dX12_apart_43 rfl rfl rfl
  · refine V_aload_n (pc := 13) (i := 0) dX12_apart_13 rfl rfl ?_
    refine V_iload_n (pc := 14) (i := 2) dX12_apart_14 rfl rfl ?_
    refine V_V1i (pc := 15) dX12_apart_15 cX12_384 (by first | assumption | rfl) (X12_isPerson (d := 1) _ (by omega)) (Nat.le_of_ble_eq_true rfl) (by omega) (Nat.le_of_ble_eq_true rfl) ?_
    rw [up2_row (by decide), hp]
    refine V_if_eq (pc := 18) 38 dX12_apart_18 rfl (fun c18 => ?_) (fun c18 => ?_)
    · refine V_aload_n (pc := 38) (i := 0) dX12_apart_38 rfl rfl ?_
      refine V_iconst (pc := 39) (v := 1) dX12_apart_39 (by decide) ?_
      refine V_V1i (pc := 40) dX12_apart_40 cX12_287 (by first | assumption | rfl) (X12_fail (d := 0) 1 hb) (Nat.le_of_ble_eq_true rfl) (by omega) (Nat.le_of_ble_eq_true rfl) ?_
      exact VE_iret (pc := 43) dX12_apart_43 rfl rfl rfl
    · exact hx.elim (fun q => absurd (b2i_n0.mp c10) (by rw [q]; decide)) (fun q0 => (fun q => absurd (b2i_n0.mp c18) (by rw [q]; decide)) q0)
theorem X12_bestMissed_bad1 {pp : Nat} (hp : S 3 0 = nI pp) (h8 : pp ≤ 8) {x1 : Int32} (hx : inR x1 0 (nI pp - 1) = false) (hb : gB G ≤ b) (hd : 2 ≤ d) : VM G mX12_bestMissed d 0 0 [.ref (b + 0), .int x1] (xE (some (.int 0)) (wH G b tbM (up2 (up2 S 0 2 0) 0 2 1) h0)) (wH G b tbM S h0) := by
  refine VM_start (ls := [some (.ref (b + 0)), some (.int x1), none, none]) rfl ?_
  -- %m X12_bestMissed
  refine V_aload_n (pc := 0) (i := 0) dX12_bestMissed_0 rfl rfl ?_
  refine V_iconst (pc := 1) (v := 0) dX12_bestMissed_1 (by decide) ?_
  refine VW_putI (pc := 2) dX12_bestMissed_2 fX12_139 ftX12 (fpI rfl rfl (tyX12_ok 2 (by decide))) (by first | assumption | rfl) rfl (by assumption) ?_
  refine V_aload_n (pc := 5) (i := 0) dX12_bestMissed_5 rfl rfl ?_
  refine V_iload_n (pc := 6) (i := 1) dX12_bestMissed_6 rfl rfl ?_
  refine V_V1i (pc := 7) dX12_bestMissed_7 cX12_384 (by first | assumption | rfl) (X12_isPerson (d := 1) _ (by omega)) (Nat.le_of_ble_eq_true rfl) (by omega) (Nat.le_of_ble_eq_true rfl) ?_
  rw [up2_row (by decide), hp]
  refine V_if_ne (pc := 10) 19 dX12_bestMissed_10 rfl (fun c10 => ?_) (fun c10 => ?_)
  · exact (fun q => absurd (b2i_n0.mp c10) (by rw [q]; decide)) hx
  · refine V_aload_n (pc := 13) (i := 0) dX12_bestMissed_13 rfl rfl ?_
    refine V_iconst (pc := 14) (v := 1) dX12_bestMissed_14 (by decide) ?_
    refine V_V1i (pc := 15) dX12_bestMissed_15 cX12_287 (by first | assumption | rfl) (X12_fail (d := 0) 1 hb) (Nat.le_of_ble_eq_true rfl) (by omega) (Nat.le_of_ble_eq_true rfl) ?_
    exact VE_iret (pc := 18) dX12_bestMissed_18 rfl rfl rfl
theorem X12_comes_bad1 {x1 : Int32} (hx : inR x1 0 1023 = false) (hb : gB G ≤ b) (hd : 2 ≤ d) : VM G mX12_comes d 0 0 [.ref (b + 0), .int x1] (xE (some (.int 0)) (wH G b tbM (up2 (up2 S 0 2 0) 0 2 1) h0)) (wH G b tbM S h0) := by
  refine VM_start (ls := [some (.ref (b + 0)), some (.int x1)]) rfl ?_
  -- %m X12_comes
  refine V_aload_n (pc := 0) (i := 0) dX12_comes_0 rfl rfl ?_
  refine V_iconst (pc := 1) (v := 0) dX12_comes_1 (by decide) ?_
  refine VW_putI (pc := 2) dX12_comes_2 fX12_139 ftX12 (fpI rfl rfl (tyX12_ok 2 (by decide))) (by first | assumption | rfl) rfl (by assumption) ?_
  refine V_iload_n (pc := 5) (i := 1) dX12_comes_5 rfl rfl ?_
  refine V_S1i (pc := 6) dX12_comes_6 cX12_412 (X12_isSet (d := 1) _ (by omega)) (Nat.le_of_ble_eq_true rfl) (by omega) (Nat.le_of_ble_eq_true rfl) ?_
  refine V_if_eq (pc := 9) 20 dX12_comes_9 rfl (fun c9 => ?_) (fun c9 => ?_)
  · refine V_aload_n (pc := 20) (i := 0) dX12_comes_20 rfl rfl ?_
    refine V_iconst (pc := 21) (v := 1) dX12_comes_21 (by decide) ?_
    refine V_V1i (pc := 22) dX12_comes_22 cX12_287 (by first | assumption | rfl) (X12_fail (d := 0) 1 hb) (Nat.le_of_ble_eq_true rfl) (by omega) (Nat.le_of_ble_eq_true rfl) ?_
    exact VE_iret (pc := 25) dX12_comes_25 rfl rfl rfl
  · exact (fun q => absurd (b2i_n0.mp c9) (by rw [q]; decide)) hx
theorem X12_common_bad1 {pp : Nat} (hp : S 3 0 = nI pp) (h8 : pp ≤ 8) {x1 x2 : Int32} (hx : inR x1 0 (nI pp - 1) = false ∨ inR x2 0 (nI pp - 1) = false) (hb : gB G ≤ b) (hd : 2 ≤ d) : VM G mX12_common d 0 0 [.ref (b + 0), .int x1, .int x2] (xE (some (.int 0)) (wH G b tbM (up2 (up2 S 0 2 0) 0 2 1) h0)) (wH G b tbM S h0) := by
  refine VM_start (ls := [some (.ref (b + 0)), some (.int x1), some (.int x2)]) rfl ?_
  -- %m X12_common
  refine V_aload_n (pc := 0) (i := 0) dX12_common_0 rfl rfl ?_
  refine V_iconst (pc := 1) (v := 0) dX12_common_1 (by decide) ?_
  refine VW_putI (pc := 2) dX12_common_2 fX12_139 ftX12 (fpI rfl rfl (tyX12_ok 2 (by decide))) (by first | assumption | rfl) rfl (by assumption) ?_
  refine V_aload_n (pc := 5) (i := 0) dX12_common_5 rfl rfl ?_
  refine V_iload_n (pc := 6) (i := 1) dX12_common_6 rfl rfl ?_
  refine V_V1i (pc := 7) dX12_common_7 cX12_384 (by first | assumption | rfl) (X12_isPerson (d := 1) _ (by omega)) (Nat.le_of_ble_eq_true rfl) (by omega) (Nat.le_of_ble_eq_true rfl) ?_
  rw [up2_row (by decide), hp]
  refine V_if_eq (pc := 10) 35 dX12_common_10 rfl (fun c10 => ?_) (fun c10 => ?_)
  · refine V_aload_n (pc := 35) (i := 0) dX12_common_35 rfl rfl ?_
    refine V_iconst (pc := 36) (v := 1) dX12_common_36 (by decide) ?_
    refine V_V1i (pc := 37) dX12_common_37 cX12_287 (by first | assumption | rfl) (X12_fail (d := 0) 1 hb) (Nat.le_of_ble_eq_true rfl) (by omega) (Nat.le_of_ble_eq_true rfl) ?_
    exact VE_iret (pc := 40) dX12_common_40 rfl rfl rfl
  · refine V_aload_n (pc := 13) (i := 0) dX12_common_13 rfl rfl ?_
    refine V_iload_n (pc := 14) (i := 2) dX12_common_14 rfl rfl ?_
    refine V_V1i (pc := 15) dX12_common_15 cX12_384 (by first | assumption | rfl) (X12_isPerson (d := 1) _ (by omega)) (Nat.le_of_ble_eq_true rfl) (by omega) (Nat.le_of_ble_eq_true rfl) ?_
    rw [up2_row (by decide), hp]
    refine V_if_eq (pc := 18) 35 dX12_common_18 rfl (fun c18 => ?_) (fun c18 => ?_)
    · refine V_aload_n (pc := 35) (i := 0) dX12_common_35 rfl rfl ?_
      refine V_iconst (pc := 36) (v := 1) dX12_common_36 (by decide) ?_
      refine V_V1i (pc := 37) dX12_common_37 cX12_287 (by first | assumption | rfl) (X12_fail (d := 0) 1 hb) (Nat.le_of_ble_eq_true rfl) (by omega) (Nat.le_of_ble_eq_true rfl) ?_
      exact VE_iret (pc := 40) dX12_common_40 rfl rfl rfl
    · exact hx.elim (fun q => absurd (b2i_n0.mp c10) (by rw [q]; decide)) (fun q0 => (fun q => absurd (b2i_n0.mp c18) (by rw [q]; decide)) q0)
theorem X12_conditional_bad1 {n : Nat} (hn : S 3 1 = nI n) (h12 : n ≤ 12) {x1 y2 : Int32} (hx : inR x1 0 (nI n - 1) = false) (hb : gB G ≤ b) (hd : 2 ≤ d) : VM G mX12_conditional d 0 0 [.ref (b + 0), .int x1, .int y2] (xE (some (.int 0)) (wH G b tbM (up2 (up2 S 0 2 0) 0 2 1) h0)) (wH G b tbM S h0) := by
  refine VM_start (ls := [some (.ref (b + 0)), some (.int x1), some (.int y2)]) rfl ?_
  -- %m X12_conditional
  refine V_aload_n (pc := 0) (i := 0) dX12_conditional_0 rfl rfl ?_
  refine V_iconst (pc := 1) (v := 0) dX12_conditional_1 (by decide) ?_
  refine VW_putI (pc := 2) dX12_conditional_2 fX12_139 ftX12 (fpI rfl rfl (tyX12_ok 2 (by decide))) (by first | assumption | rfl) rfl (by assumption) ?_
  refine V_aload_n (pc := 5) (i := 0) dX12_conditional_5 rfl rfl ?_
  refine V_iload_n (pc := 6) (i := 1) dX12_conditional_6 rfl rfl ?_
  refine V_V1i (pc := 7) dX12_conditional_7 cX12_381 (by first | assumption | rfl) (X12_isIf (d := 1) _ (by omega)) (Nat.le_of_ble_eq_true rfl) (by omega) (Nat.le_of_ble_eq_true rfl) ?_
  rw [up2_row (by decide), hn]
  refine V_if_ne (pc := 10) 19 dX12_conditional_10 rfl (fun c10 => ?_) (fun c10 => ?_)
  · exact (fun q => absurd (b2i_n0.mp c10) (by rw [q]; decide)) hx
  · refine V_aload_n (pc := 13) (i := 0) dX12_conditional_13 rfl rfl ?_
    refine V_iconst (pc := 14) (v := 1) dX12_conditional_14 (by decide) ?_
    refine V_V1i (pc := 15) dX12_conditional_15 cX12_287 (by first | assumption | rfl) (X12_fail (d := 0) 1 hb) (Nat.le_of_ble_eq_true rfl) (by omega) (Nat.le_of_ble_eq_true rfl) ?_
    exact VE_iret (pc := 18) dX12_conditional_18 rfl rfl rfl
theorem X12_critical_bad1 {pp : Nat} (hp : S 3 0 = nI pp) (h8 : pp ≤ 8) {x1 : Int32} (hx : inR x1 0 (nI pp - 1) = false) (hb : gB G ≤ b) (hd : 2 ≤ d) : VM G mX12_critical d 0 0 [.ref (b + 0), .int x1] (xE (some (.int 0)) (wH G b tbM (up2 (up2 S 0 2 0) 0 2 1) h0)) (wH G b tbM S h0) := by
  refine VM_start (ls := [some (.ref (b + 0)), some (.int x1)]) rfl ?_
  -- %m X12_critical
  refine V_aload_n (pc := 0) (i := 0) dX12_critical_0 rfl rfl ?_
  refine V_iconst (pc := 1) (v := 0) dX12_critical_1 (by decide) ?_
  refine VW_putI (pc := 2) dX12_critical_2 fX12_139 ftX12 (fpI rfl rfl (tyX12_ok 2 (by decide))) (by first | assumption | rfl) rfl (by assumption) ?_
  refine V_aload_n (pc := 5) (i := 0) dX12_critical_5 rfl rfl ?_
  refine V_iload_n (pc := 6) (i := 1) dX12_critical_6 rfl rfl ?_
  refine V_V1i (pc := 7) dX12_critical_7 cX12_384 (by first | assumption | rfl) (X12_isPerson (d := 1) _ (by omega)) (Nat.le_of_ble_eq_true rfl) (by omega) (Nat.le_of_ble_eq_true rfl) ?_
  rw [up2_row (by decide), hp]
  refine V_if_eq (pc := 10) 38 dX12_critical_10 rfl (fun c10 => ?_) (fun c10 => ?_)
  · refine V_aload_n (pc := 38) (i := 0) dX12_critical_38 rfl rfl ?_
    refine V_iconst (pc := 39) (v := 1) dX12_critical_39 (by decide) ?_
    refine V_V1i (pc := 40) dX12_critical_40 cX12_287 (by first | assumption | rfl) (X12_fail (d := 0) 1 hb) (Nat.le_of_ble_eq_true rfl) (by omega) (Nat.le_of_ble_eq_true rfl) ?_
    exact VE_iret (pc := 43) dX12_critical_43 rfl rfl rfl
  · exact (fun q => absurd (b2i_n0.mp c10) (by rw [q]; decide)) hx
theorem X12_crossing_bad1 {x1 : Int32} (hx : inR x1 1 60 = false) (hb : gB G ≤ b) (hd : 2 ≤ d) : VM G mX12_crossing d 0 0 [.ref (b + 0), .int x1] (xE (some (.int 0)) (wH G b tbM (up2 (up2 S 0 2 0) 0 2 1) h0)) (wH G b tbM S h0) := by
  refine VM_start (ls := [some (.ref (b + 0)), some (.int x1), none]) rfl ?_
  -- %m X12_crossing
  refine V_aload_n (pc := 0) (i := 0) dX12_crossing_0 rfl rfl ?_
  refine V_iconst (pc := 1) (v := 0) dX12_crossing_1 (by decide) ?_
  refine VW_putI (pc := 2) dX12_crossing_2 fX12_139 ftX12 (fpI rfl rfl (tyX12_ok 2 (by decide))) (by first | assumption | rfl) rfl (by assumption) ?_
  refine V_iload_n (pc := 5) (i := 1) dX12_crossing_5 rfl rfl ?_
  refine V_i2l (pc := 6) dX12_crossing_6 rfl ?_
  refine V_lconst (pc := 7) (v := 1) dX12_crossing_7 (by decide) ?_
  refine V_ldc2 (pc := 8) dX12_crossing_8 lX12_410 ?_
  refine V_S3i (pc := 11) dX12_crossing_11 cX12_142 (X12_isInC (d := 0) _ (l' := 1) (m' := 60) (by decide) (by decide)) (Nat.le_of_ble_eq_true rfl) (by omega) (Nat.le_of_ble_eq_true rfl) ?_
  refine V_if_ne (pc := 14) 23 dX12_crossing_14 rfl (fun c14 => ?_) (fun c14 => ?_)
  · exact (fun q => absurd (b2i_n0.mp c14) (by rw [q]; decide)) hx
  · refine V_aload_n (pc := 17) (i := 0) dX12_crossing_17 rfl rfl ?_
    refine V_iconst (pc := 18) (v := 1) dX12_crossing_18 (by decide) ?_
    refine V_V1i (pc := 19) dX12_crossing_19 cX12_287 (by first | assumption | rfl) (X12_fail (d := 0) 1 hb) (Nat.le_of_ble_eq_true rfl) (by omega) (Nat.le_of_ble_eq_true rfl) ?_
    exact VE_iret (pc := 22) dX12_crossing_22 rfl rfl rfl
theorem X12_deny_bad1 {n : Nat} (hn : S 3 1 = nI n) (h12 : n ≤ 12) {x1 y2 : Int32} (hx : inR x1 0 (nI n - 1) = false) (hb : gB G ≤ b) (hd : 2 ≤ d) : VM G mX12_deny d 0 0 [.ref (b + 0), .int x1, .int y2] (xE (some (.int 0)) (wH G b tbM (up2 (up2 S 0 2 0) 0 2 1) h0)) (wH G b tbM S h0) := by
  refine VM_start (ls := [some (.ref (b + 0)), some (.int x1), some (.int y2)]) rfl ?_
  -- %m X12_deny
  refine V_aload_n (pc := 0) (i := 0) dX12_deny_0 rfl rfl ?_
  refine V_iconst (pc := 1) (v := 0) dX12_deny_1 (by decide) ?_
  refine VW_putI (pc := 2) dX12_deny_2 fX12_139 ftX12 (fpI rfl rfl (tyX12_ok 2 (by decide))) (by first | assumption | rfl) rfl (by assumption) ?_
  refine V_aload_n (pc := 5) (i := 0) dX12_deny_5 rfl rfl ?_
  refine V_iload_n (pc := 6) (i := 1) dX12_deny_6 rfl rfl ?_
  refine V_V1i (pc := 7) dX12_deny_7 cX12_381 (by first | assumption | rfl) (X12_isIf (d := 1) _ (by omega)) (Nat.le_of_ble_eq_true rfl) (by omega) (Nat.le_of_ble_eq_true rfl) ?_
  rw [up2_row (by decide), hn]
  refine V_if_ne (pc := 10) 19 dX12_deny_10 rfl (fun c10 => ?_) (fun c10 => ?_)
  · exact (fun q => absurd (b2i_n0.mp c10) (by rw [q]; decide)) hx
  · refine V_aload_n (pc := 13) (i := 0) dX12_deny_13 rfl rfl ?_
    refine V_iconst (pc := 14) (v := 1) dX12_deny_14 (by decide) ?_
    refine V_V1i (pc := 15) dX12_deny_15 cX12_402 (by first | assumption | rfl) (X12_failing (d := 0) 1 hb) (Nat.le_of_ble_eq_true rfl) (by omega) (Nat.le_of_ble_eq_true rfl) ?_
    exact VE_zret (pc := 18) dX12_deny_18 rfl (Or.inl rfl) rfl rfl
theorem X12_fewest_bad1 {y1 x2 : Int32} (hx : inR x2 0 9 = false) (hb : gB G ≤ b) (hd : 2 ≤ d) : VM G mX12_fewest d 0 0 [.ref (b + 0), .int y1, .int x2] (xE (some (.int 0)) (wH G b tbM (up2 (up2 S 0 2 0) 0 2 1) h0)) (wH G b tbM S h0) := by
  refine VM_start (ls := [some (.ref (b + 0)), some (.int y1), some (.int x2), none, none]) rfl ?_
  -- %m X12_fewest
  refine V_aload_n (pc := 0) (i := 0) dX12_fewest_0 rfl rfl ?_
  refine V_iconst (pc := 1) (v := 0) dX12_fewest_1 (by decide) ?_
  refine VW_putI (pc := 2) dX12_fewest_2 fX12_139 ftX12 (fpI rfl rfl (tyX12_ok 2 (by decide))) (by first | assumption | rfl) rfl (by assumption) ?_
  refine V_iload_n (pc := 5) (i := 2) dX12_fewest_5 rfl rfl ?_
  refine V_S1i (pc := 6) dX12_fewest_6 cX12_378 (X12_isThing (d := 1) _ (by omega)) (Nat.le_of_ble_eq_true rfl) (by omega) (Nat.le_of_ble_eq_true rfl) ?_
  refine V_if_ne (pc := 9) 18 dX12_fewest_9 rfl (fun c9 => ?_) (fun c9 => ?_)
  · exact (fun q => absurd (b2i_n0.mp c9) (by rw [q]; decide)) hx
  · refine V_aload_n (pc := 12) (i := 0) dX12_fewest_12 rfl rfl ?_
    refine V_iconst (pc := 13) (v := 1) dX12_fewest_13 (by decide) ?_
    refine V_V1i (pc := 14) dX12_fewest_14 cX12_287 (by first | assumption | rfl) (X12_fail (d := 0) 1 hb) (Nat.le_of_ble_eq_true rfl) (by omega) (Nat.le_of_ble_eq_true rfl) ?_
    exact VE_iret (pc := 17) dX12_fewest_17 rfl rfl rfl
theorem X12_fewest_bad2 {k2 : Nat} {x1 : Int32} (h2 : 0 ≤ k2 ∧ k2 ≤ 9) (hx : inR x1 0 1023 = false) (hb : gB G ≤ b) (hd : 2 ≤ d) : VM G mX12_fewest d 0 0 [.ref (b + 0), .int x1, .int (nI k2)] (xE (some (.int 0)) (wH G b tbM (up2 (up2 S 0 2 0) 0 2 2) h0)) (wH G b tbM S h0) := by
  have h2i : inR (nI k2) 0 9 = true := inR_ok (l := 0) (m := 9) (by omega) (by omega) (by decide)
  refine VM_start (ls := [some (.ref (b + 0)), some (.int x1), some (.int (nI k2)), none, none]) rfl ?_
  -- %m X12_fewest
  refine V_aload_n (pc := 0) (i := 0) dX12_fewest_0 rfl rfl ?_
  refine V_iconst (pc := 1) (v := 0) dX12_fewest_1 (by decide) ?_
  refine VW_putI (pc := 2) dX12_fewest_2 fX12_139 ftX12 (fpI rfl rfl (tyX12_ok 2 (by decide))) (by first | assumption | rfl) rfl (by assumption) ?_
  refine V_iload_n (pc := 5) (i := 2) dX12_fewest_5 rfl rfl ?_
  refine V_S1i (pc := 6) dX12_fewest_6 cX12_378 (X12_isThing (d := 1) _ (by omega)) (Nat.le_of_ble_eq_true rfl) (by omega) (Nat.le_of_ble_eq_true rfl) ?_
  refine V_if_ne (pc := 9) 18 dX12_fewest_9 rfl (fun c9 => ?_) (fun c9 => ?_)
  · refine V_iload_n (pc := 18) (i := 1) dX12_fewest_18 rfl rfl ?_
    refine V_S1i (pc := 19) dX12_fewest_19 cX12_412 (X12_isSet (d := 1) _ (by omega)) (Nat.le_of_ble_eq_true rfl) (by omega) (Nat.le_of_ble_eq_true rfl) ?_
    refine V_if_ne (pc := 22) 31 dX12_fewest_22 rfl (fun c22 => ?_) (fun c22 => ?_)
    · exact (fun q => absurd (b2i_n0.mp c22) (by rw [q]; decide)) hx
    · refine V_aload_n (pc := 25) (i := 0) dX12_fewest_25 rfl rfl ?_
      refine V_iconst (pc := 26) (v := 2) dX12_fewest_26 (by decide) ?_
      refine V_V1i (pc := 27) dX12_fewest_27 cX12_287 (by first | assumption | rfl) (X12_fail (d := 0) 2 hb) (Nat.le_of_ble_eq_true rfl) (by omega) (Nat.le_of_ble_eq_true rfl) ?_
      exact VE_iret (pc := 30) dX12_fewest_30 rfl rfl rfl
  · rw [h2i] at c9; exact absurd c9 (by decide)
theorem X12_first_bad1 {pp : Nat} (hp : S 3 0 = nI pp) (h8 : pp ≤ 8) {x1 : Int32} (hx : inR x1 0 (nI pp - 1) = false) (hb : gB G ≤ b) (hd : 2 ≤ d) : VM G mX12_first d 0 0 [.ref (b + 0), .int x1] (xE (some (.int 0)) (wH G b tbM (up2 (up2 S 0 2 0) 0 2 1) h0)) (wH G b tbM S h0) := by
  refine VM_start (ls := [some (.ref (b + 0)), some (.int x1), none, none]) rfl ?_
  -- %m X12_first
  refine V_aload_n (pc := 0) (i := 0) dX12_first_0 rfl rfl ?_
  refine V_iconst (pc := 1) (v := 0) dX12_first_1 (by decide) ?_
  refine VW_putI (pc := 2) dX12_first_2 fX12_139 ftX12 (fpI rfl rfl (tyX12_ok 2 (by decide))) (by first | assumption | rfl) rfl (by assumption) ?_
  refine V_aload_n (pc := 5) (i := 0) dX12_first_5 rfl rfl ?_
  refine V_iload_n (pc := 6) (i := 1) dX12_first_6 rfl rfl ?_
  refine V_V1i (pc := 7) dX12_first_7 cX12_384 (by first | assumption | rfl) (X12_isPerson (d := 1) _ (by omega)) (Nat.le_of_ble_eq_true rfl) (by omega) (Nat.le_of_ble_eq_true rfl) ?_
  rw [up2_row (by decide), hp]
  refine V_if_ne (pc := 10) 19 dX12_first_10 rfl (fun c10 => ?_) (fun c10 => ?_)
  · exact (fun q => absurd (b2i_n0.mp c10) (by rw [q]; decide)) hx
  · refine V_aload_n (pc := 13) (i := 0) dX12_first_13 rfl rfl ?_
    refine V_iconst (pc := 14) (v := 1) dX12_first_14 (by decide) ?_
    refine V_V1i (pc := 15) dX12_first_15 cX12_287 (by first | assumption | rfl) (X12_fail (d := 0) 1 hb) (Nat.le_of_ble_eq_true rfl) (by omega) (Nat.le_of_ble_eq_true rfl) ?_
    exact VE_iret (pc := 18) dX12_first_18 rfl rfl rfl
theorem X12_fullest_bad1 {y1 x2 : Int32} (hx : (x2 < 0 ∨ 1 < x2)) (hb : gB G ≤ b) (hd : 2 ≤ d) : VM G mX12_fullest d 0 0 [.ref (b + 0), .int y1, .int x2] (xE (some (.int 0)) (wH G b tbM (up2 (up2 S 0 2 0) 0 2 1) h0)) (wH G b tbM S h0) := by
  refine VM_start (ls := [some (.ref (b + 0)), some (.int y1), some (.int x2), none, none, none]) rfl ?_
  -- %m X12_fullest
  refine V_aload_n (pc := 0) (i := 0) dX12_fullest_0 rfl rfl ?_
  refine V_iconst (pc := 1) (v := 0) dX12_fullest_1 (by decide) ?_
  refine VW_putI (pc := 2) dX12_fullest_2 fX12_139 ftX12 (fpI rfl rfl (tyX12_ok 2 (by decide))) (by first | assumption | rfl) rfl (by assumption) ?_
  refine V_iload_n (pc := 5) (i := 2) dX12_fullest_5 rfl rfl ?_
  refine V_if_lt (pc := 6) 14 dX12_fullest_6 rfl (fun c6 => ?_) (fun c6 => ?_)
  · refine V_aload_n (pc := 14) (i := 0) dX12_fullest_14 rfl rfl ?_
    refine V_iconst (pc := 15) (v := 1) dX12_fullest_15 (by decide) ?_
    refine V_V1i (pc := 16) dX12_fullest_16 cX12_287 (by first | assumption | rfl) (X12_fail (d := 0) 1 hb) (Nat.le_of_ble_eq_true rfl) (by omega) (Nat.le_of_ble_eq_true rfl) ?_
    exact VE_iret (pc := 19) dX12_fullest_19 rfl rfl rfl
  · refine V_iload_n (pc := 9) (i := 2) dX12_fullest_9 rfl rfl ?_
    refine V_iconst (pc := 10) (v := 1) dX12_fullest_10 (by decide) ?_
    refine V_icmp_le (pc := 11) 20 dX12_fullest_11 rfl (fun c11 => ?_) (fun c11 => ?_)
    · exact (fun q => q.elim (fun z => absurd z c6) (fun z => absurd c11 (Int32.not_le.mpr z))) hx
    · refine V_aload_n (pc := 14) (i := 0) dX12_fullest_14 rfl rfl ?_
      refine V_iconst (pc := 15) (v := 1) dX12_fullest_15 (by decide) ?_
      refine V_V1i (pc := 16) dX12_fullest_16 cX12_287 (by first | assumption | rfl) (X12_fail (d := 0) 1 hb) (Nat.le_of_ble_eq_true rfl) (by omega) (Nat.le_of_ble_eq_true rfl) ?_
      exact VE_iret (pc := 19) dX12_fullest_19 rfl rfl rfl
theorem X12_fullest_bad2 {k2 : Nat} {x1 : Int32} (h2 : k2 ≤ 1) (hx : inR x1 1 60 = false) (hb : gB G ≤ b) (hd : 2 ≤ d) : VM G mX12_fullest d 0 0 [.ref (b + 0), .int x1, .int (nI k2)] (xE (some (.int 0)) (wH G b tbM (up2 (up2 S 0 2 0) 0 2 2) h0)) (wH G b tbM S h0) := by
  refine VM_start (ls := [some (.ref (b + 0)), some (.int x1), some (.int (nI k2)), none, none, none]) rfl ?_
  -- %m X12_fullest
  refine V_aload_n (pc := 0) (i := 0) dX12_fullest_0 rfl rfl ?_
  refine V_iconst (pc := 1) (v := 0) dX12_fullest_1 (by decide) ?_
  refine VW_putI (pc := 2) dX12_fullest_2 fX12_139 ftX12 (fpI rfl rfl (tyX12_ok 2 (by decide))) (by first | assumption | rfl) rfl (by assumption) ?_
  refine V_iload_n (pc := 5) (i := 2) dX12_fullest_5 rfl rfl ?_
  refine V_if_lt (pc := 6) 14 dX12_fullest_6 rfl (fun c6 => ?_) (fun c6 => ?_)
  · exact absurd c6 (nI_pos (by omega))
  · refine V_iload_n (pc := 9) (i := 2) dX12_fullest_9 rfl rfl ?_
    refine V_iconst (pc := 10) (v := 1) dX12_fullest_10 (by decide) ?_
    refine V_icmp_le (pc := 11) 20 dX12_fullest_11 rfl (fun c11 => ?_) (fun c11 => ?_)
    · refine V_iload_n (pc := 20) (i := 1) dX12_fullest_20 rfl rfl ?_
      refine V_i2l (pc := 21) dX12_fullest_21 rfl ?_
      refine V_lconst (pc := 22) (v := 1) dX12_fullest_22 (by decide) ?_
      refine V_ldc2 (pc := 23) dX12_fullest_23 lX12_410 ?_
      refine V_S3i (pc := 26) dX12_fullest_26 cX12_142 (X12_isInC (d := 0) _ (l' := 1) (m' := 60) (by decide) (by decide)) (Nat.le_of_ble_eq_true rfl) (by omega) (Nat.le_of_ble_eq_true rfl) ?_
      refine V_if_ne (pc := 29) 38 dX12_fullest_29 rfl (fun c29 => ?_) (fun c29 => ?_)
      · exact (fun q => absurd (b2i_n0.mp c29) (by rw [q]; decide)) hx
      · refine V_aload_n (pc := 32) (i := 0) dX12_fullest_32 rfl rfl ?_
        refine V_iconst (pc := 33) (v := 2) dX12_fullest_33 (by decide) ?_
        refine V_V1i (pc := 34) dX12_fullest_34 cX12_287 (by first | assumption | rfl) (X12_fail (d := 0) 2 hb) (Nat.le_of_ble_eq_true rfl) (by omega) (Nat.le_of_ble_eq_true rfl) ?_
        exact VE_iret (pc := 37) dX12_fullest_37 rfl rfl rfl
    · exact absurd (nI_le (b := 1) (by omega) (by decide)) c11
theorem X12_game_bad1 {pp : Nat} (hp : S 3 0 = nI pp) (h8 : pp ≤ 8) {x1 x2 x3 : Int32} (hx : inR x1 0 (nI pp - 1) = false ∨ inR x2 0 (nI pp - 1) = false ∨ (x3 < 0 ∨ 1 < x3)) (hb : gB G ≤ b) (hd : 2 ≤ d) : VM G mX12_game d 0 0 [.ref (b + 0), .int x1, .int x2, .int x3] (xE (some (.int 0)) (wH G b tbM (up2 (up2 S 0 2 0) 0 2 1) h0)) (wH G b tbM S h0) := by
  refine VM_start (ls := [some (.ref (b + 0)), some (.int x1), some (.int x2), some (.int x3), none, none, none, none, none]) rfl ?_
  -- %m X12_game
  refine V_aload_n (pc := 0) (i := 0) dX12_game_0 rfl rfl ?_
  refine V_iconst (pc := 1) (v := 0) dX12_game_1 (by decide) ?_
  refine VW_putI (pc := 2) dX12_game_2 fX12_139 ftX12 (fpI rfl rfl (tyX12_ok 2 (by decide))) (by first | assumption | rfl) rfl (by assumption) ?_
  refine V_aload_n (pc := 5) (i := 0) dX12_game_5 rfl rfl ?_
  refine V_iload_n (pc := 6) (i := 1) dX12_game_6 rfl rfl ?_
  refine V_V1i (pc := 7) dX12_game_7 cX12_384 (by first | assumption | rfl) (X12_isPerson (d := 1) _ (by omega)) (Nat.le_of_ble_eq_true rfl) (by omega) (Nat.le_of_ble_eq_true rfl) ?_
  rw [up2_row (by decide), hp]
  refine V_if_eq (pc := 10) 30 dX12_game_10 rfl (fun c10 => ?_) (fun c10 => ?_)
  · refine V_aload_n (pc := 30) (i := 0) dX12_game_30 rfl rfl ?_
    refine V_iconst (pc := 31) (v := 1) dX12_game_31 (by decide) ?_
    refine V_V1i (pc := 32) dX12_game_32 cX12_287 (by first | assumption | rfl) (X12_fail (d := 0) 1 hb) (Nat.le_of_ble_eq_true rfl) (by omega) (Nat.le_of_ble_eq_true rfl) ?_
    exact VE_iret (pc := 35) dX12_game_35 rfl rfl rfl
  · refine V_aload_n (pc := 13) (i := 0) dX12_game_13 rfl rfl ?_
    refine V_iload_n (pc := 14) (i := 2) dX12_game_14 rfl rfl ?_
    refine V_V1i (pc := 15) dX12_game_15 cX12_384 (by first | assumption | rfl) (X12_isPerson (d := 1) _ (by omega)) (Nat.le_of_ble_eq_true rfl) (by omega) (Nat.le_of_ble_eq_true rfl) ?_
    rw [up2_row (by decide), hp]
    refine V_if_eq (pc := 18) 30 dX12_game_18 rfl (fun c18 => ?_) (fun c18 => ?_)
    · refine V_aload_n (pc := 30) (i := 0) dX12_game_30 rfl rfl ?_
      refine V_iconst (pc := 31) (v := 1) dX12_game_31 (by decide) ?_
      refine V_V1i (pc := 32) dX12_game_32 cX12_287 (by first | assumption | rfl) (X12_fail (d := 0) 1 hb) (Nat.le_of_ble_eq_true rfl) (by omega) (Nat.le_of_ble_eq_true rfl) ?_
      exact VE_iret (pc := 35) dX12_game_35 rfl rfl rfl
    · refine V_iload_n (pc := 21) (i := 3) dX12_game_21 rfl rfl ?_
      refine V_if_lt (pc := 22) 30 dX12_game_22 rfl (fun c22 => ?_) (fun c22 => ?_)
      · refine V_aload_n (pc := 30) (i := 0) dX12_game_30 rfl rfl ?_
        refine V_iconst (pc := 31) (v := 1) dX12_game_31 (by decide) ?_
        refine V_V1i (pc := 32) dX12_game_32 cX12_287 (by first | assumption | rfl) (X12_fail (d := 0) 1 hb) (Nat.le_of_ble_eq_true rfl) (by omega) (Nat.le_of_ble_eq_true rfl) ?_
        exact VE_iret (pc := 35) dX12_game_35 rfl rfl rfl
      · refine V_iload_n (pc := 25) (i := 3) dX12_game_25 rfl rfl ?_
        refine V_iconst (pc := 26) (v := 1) dX12_game_26 (by decide) ?_
        refine V_icmp_le (pc := 27) 36 dX12_game_27 rfl (fun c27 => ?_) (fun c27 => ?_)
        · exact hx.elim (fun q => absurd (b2i_n0.mp c10) (by rw [q]; decide)) (fun q0 => q0.elim (fun q => absurd (b2i_n0.mp c18) (by rw [q]; decide)) (fun q1 => (fun q => q.elim (fun z => absurd z c22) (fun z => absurd c27 (Int32.not_le.mpr z))) q1))
        · refine V_aload_n (pc := 30) (i := 0) dX12_game_30 rfl rfl ?_
          refine V_iconst (pc := 31) (v := 1) dX12_game_31 (by decide) ?_
          refine V_V1i (pc := 32) dX12_game_32 cX12_287 (by first | assumption | rfl) (X12_fail (d := 0) 1 hb) (Nat.le_of_ble_eq_true rfl) (by omega) (Nat.le_of_ble_eq_true rfl) ?_
          exact VE_iret (pc := 35) dX12_game_35 rfl rfl rfl
theorem X12_happiest_bad1 {x1 : Int32} (hx : inR x1 0 2 = false) (hb : gB G ≤ b) (hd : 2 ≤ d) : VM G mX12_happiest d 0 0 [.ref (b + 0), .int x1] (xE (some (.int 0)) (wH G b tbM (up2 (up2 S 0 2 0) 0 2 1) h0)) (wH G b tbM S h0) := by
  refine VM_start (ls := [some (.ref (b + 0)), some (.int x1), none, none]) rfl ?_
  -- %m X12_happiest
  refine V_aload_n (pc := 0) (i := 0) dX12_happiest_0 rfl rfl ?_
  refine V_iconst (pc := 1) (v := 0) dX12_happiest_1 (by decide) ?_
  refine VW_putI (pc := 2) dX12_happiest_2 fX12_139 ftX12 (fpI rfl rfl (tyX12_ok 2 (by decide))) (by first | assumption | rfl) rfl (by assumption) ?_
  refine V_iload_n (pc := 5) (i := 1) dX12_happiest_5 rfl rfl ?_
  refine V_i2l (pc := 6) dX12_happiest_6 rfl ?_
  refine V_lconst (pc := 7) (v := 0) dX12_happiest_7 (by decide) ?_
  refine V_ldc2 (pc := 8) dX12_happiest_8 lX12_418 ?_
  refine V_S3i (pc := 11) dX12_happiest_11 cX12_142 (X12_isInC (d := 0) _ (l' := 0) (m' := 2) (by decide) (by decide)) (Nat.le_of_ble_eq_true rfl) (by omega) (Nat.le_of_ble_eq_true rfl) ?_
  refine V_if_ne (pc := 14) 23 dX12_happiest_14 rfl (fun c14 => ?_) (fun c14 => ?_)
  · exact (fun q => absurd (b2i_n0.mp c14) (by rw [q]; decide)) hx
  · refine V_aload_n (pc := 17) (i := 0) dX12_happiest_17 rfl rfl ?_
    refine V_iconst (pc := 18) (v := 1) dX12_happiest_18 (by decide) ?_
    refine V_V1i (pc := 19) dX12_happiest_19 cX12_287 (by first | assumption | rfl) (X12_fail (d := 0) 1 hb) (Nat.le_of_ble_eq_true rfl) (by omega) (Nat.le_of_ble_eq_true rfl) ?_
    exact VE_iret (pc := 22) dX12_happiest_22 rfl rfl rfl
theorem X12_has_bad1 {pp : Nat} (hp : S 3 0 = nI pp) (h8 : pp ≤ 8) {x1 x2 y3 : Int32} (hx : inR x1 0 (nI pp - 1) = false ∨ inR x2 0 9 = false) (hb : gB G ≤ b) (hd : 2 ≤ d) : VM G mX12_has d 0 0 [.ref (b + 0), .int x1, .int x2, .int y3] (xE (some (.int 0)) (wH G b tbM (up2 (up2 S 0 2 0) 0 2 1) h0)) (wH G b tbM S h0) := by
  refine VM_start (ls := [some (.ref (b + 0)), some (.int x1), some (.int x2), some (.int y3)]) rfl ?_
  -- %m X12_has
  refine V_aload_n (pc := 0) (i := 0) dX12_has_0 rfl rfl ?_
  refine V_iconst (pc := 1) (v := 0) dX12_has_1 (by decide) ?_
  refine VW_putI (pc := 2) dX12_has_2 fX12_139 ftX12 (fpI rfl rfl (tyX12_ok 2 (by decide))) (by first | assumption | rfl) rfl (by assumption) ?_
  refine V_aload_n (pc := 5) (i := 0) dX12_has_5 rfl rfl ?_
  refine V_iload_n (pc := 6) (i := 1) dX12_has_6 rfl rfl ?_
  refine V_V1i (pc := 7) dX12_has_7 cX12_384 (by first | assumption | rfl) (X12_isPerson (d := 1) _ (by omega)) (Nat.le_of_ble_eq_true rfl) (by omega) (Nat.le_of_ble_eq_true rfl) ?_
  rw [up2_row (by decide), hp]
  refine V_if_eq (pc := 10) 20 dX12_has_10 rfl (fun c10 => ?_) (fun c10 => ?_)
  · refine V_aload_n (pc := 20) (i := 0) dX12_has_20 rfl rfl ?_
    refine V_iconst (pc := 21) (v := 1) dX12_has_21 (by decide) ?_
    refine V_V1i (pc := 22) dX12_has_22 cX12_287 (by first | assumption | rfl) (X12_fail (d := 0) 1 hb) (Nat.le_of_ble_eq_true rfl) (by omega) (Nat.le_of_ble_eq_true rfl) ?_
    exact VE_iret (pc := 25) dX12_has_25 rfl rfl rfl
  · refine V_iload_n (pc := 13) (i := 2) dX12_has_13 rfl rfl ?_
    refine V_S1i (pc := 14) dX12_has_14 cX12_378 (X12_isThing (d := 1) _ (by omega)) (Nat.le_of_ble_eq_true rfl) (by omega) (Nat.le_of_ble_eq_true rfl) ?_
    refine V_if_ne (pc := 17) 26 dX12_has_17 rfl (fun c17 => ?_) (fun c17 => ?_)
    · exact hx.elim (fun q => absurd (b2i_n0.mp c10) (by rw [q]; decide)) (fun q0 => (fun q => absurd (b2i_n0.mp c17) (by rw [q]; decide)) q0)
    · refine V_aload_n (pc := 20) (i := 0) dX12_has_20 rfl rfl ?_
      refine V_iconst (pc := 21) (v := 1) dX12_has_21 (by decide) ?_
      refine V_V1i (pc := 22) dX12_has_22 cX12_287 (by first | assumption | rfl) (X12_fail (d := 0) 1 hb) (Nat.le_of_ble_eq_true rfl) (by omega) (Nat.le_of_ble_eq_true rfl) ?_
      exact VE_iret (pc := 25) dX12_has_25 rfl rfl rfl
theorem X12_leads_bad1 {x1 x2 : Int32} (hx : inR x1 0 9 = false ∨ inR x2 0 9 = false) (hb : gB G ≤ b) (hd : 2 ≤ d) : VM G mX12_leads d 0 0 [.ref (b + 0), .int x1, .int x2] (xE (some (.int 0)) (wH G b tbM (up2 (up2 S 0 2 0) 0 2 1) h0)) (wH G b tbM S h0) := by
  refine VM_start (ls := [some (.ref (b + 0)), some (.int x1), some (.int x2)]) rfl ?_
  -- %m X12_leads
  refine V_aload_n (pc := 0) (i := 0) dX12_leads_0 rfl rfl ?_
  refine V_iconst (pc := 1) (v := 0) dX12_leads_1 (by decide) ?_
  refine VW_putI (pc := 2) dX12_leads_2 fX12_139 ftX12 (fpI rfl rfl (tyX12_ok 2 (by decide))) (by first | assumption | rfl) rfl (by assumption) ?_
  refine V_iload_n (pc := 5) (i := 1) dX12_leads_5 rfl rfl ?_
  refine V_S1i (pc := 6) dX12_leads_6 cX12_378 (X12_isThing (d := 1) _ (by omega)) (Nat.le_of_ble_eq_true rfl) (by omega) (Nat.le_of_ble_eq_true rfl) ?_
  refine V_if_eq (pc := 9) 19 dX12_leads_9 rfl (fun c9 => ?_) (fun c9 => ?_)
  · refine V_aload_n (pc := 19) (i := 0) dX12_leads_19 rfl rfl ?_
    refine V_iconst (pc := 20) (v := 1) dX12_leads_20 (by decide) ?_
    refine V_V1i (pc := 21) dX12_leads_21 cX12_402 (by first | assumption | rfl) (X12_failing (d := 0) 1 hb) (Nat.le_of_ble_eq_true rfl) (by omega) (Nat.le_of_ble_eq_true rfl) ?_
    exact VE_zret (pc := 24) dX12_leads_24 rfl (Or.inl rfl) rfl rfl
  · refine V_iload_n (pc := 12) (i := 2) dX12_leads_12 rfl rfl ?_
    refine V_S1i (pc := 13) dX12_leads_13 cX12_378 (X12_isThing (d := 1) _ (by omega)) (Nat.le_of_ble_eq_true rfl) (by omega) (Nat.le_of_ble_eq_true rfl) ?_
    refine V_if_ne (pc := 16) 25 dX12_leads_16 rfl (fun c16 => ?_) (fun c16 => ?_)
    · exact hx.elim (fun q => absurd (b2i_n0.mp c9) (by rw [q]; decide)) (fun q0 => (fun q => absurd (b2i_n0.mp c16) (by rw [q]; decide)) q0)
    · refine V_aload_n (pc := 19) (i := 0) dX12_leads_19 rfl rfl ?_
      refine V_iconst (pc := 20) (v := 1) dX12_leads_20 (by decide) ?_
      refine V_V1i (pc := 21) dX12_leads_21 cX12_402 (by first | assumption | rfl) (X12_failing (d := 0) 1 hb) (Nat.le_of_ble_eq_true rfl) (by omega) (Nat.le_of_ble_eq_true rfl) ?_
      exact VE_zret (pc := 24) dX12_leads_24 rfl (Or.inl rfl) rfl rfl
theorem X12_like_bad1 {pp : Nat} (hp : S 3 0 = nI pp) (h8 : pp ≤ 8) {x1 x2 : Int32} (hx : inR x1 0 (nI pp - 1) = false ∨ (x2 < 0 ∨ 1 < x2)) (hb : gB G ≤ b) (hd : 2 ≤ d) : VM G mX12_like d 0 0 [.ref (b + 0), .int x1, .int x2] (xE (some (.int 0)) (wH G b tbM (up2 (up2 S 0 2 0) 0 2 1) h0)) (wH G b tbM S h0) := by
  refine VM_start (ls := [some (.ref (b + 0)), some (.int x1), some (.int x2), none, none, none]) rfl ?_
  -- %m X12_like
  refine V_aload_n (pc := 0) (i := 0) dX12_like_0 rfl rfl ?_
  refine V_iconst (pc := 1) (v := 0) dX12_like_1 (by decide) ?_
  refine VW_putI (pc := 2) dX12_like_2 fX12_139 ftX12 (fpI rfl rfl (tyX12_ok 2 (by decide))) (by first | assumption | rfl) rfl (by assumption) ?_
  refine V_aload_n (pc := 5) (i := 0) dX12_like_5 rfl rfl ?_
  refine V_iload_n (pc := 6) (i := 1) dX12_like_6 rfl rfl ?_
  refine V_V1i (pc := 7) dX12_like_7 cX12_384 (by first | assumption | rfl) (X12_isPerson (d := 1) _ (by omega)) (Nat.le_of_ble_eq_true rfl) (by omega) (Nat.le_of_ble_eq_true rfl) ?_
  rw [up2_row (by decide), hp]
  refine V_if_eq (pc := 10) 22 dX12_like_10 rfl (fun c10 => ?_) (fun c10 => ?_)
  · refine V_aload_n (pc := 22) (i := 0) dX12_like_22 rfl rfl ?_
    refine V_iconst (pc := 23) (v := 1) dX12_like_23 (by decide) ?_
    refine V_V1i (pc := 24) dX12_like_24 cX12_287 (by first | assumption | rfl) (X12_fail (d := 0) 1 hb) (Nat.le_of_ble_eq_true rfl) (by omega) (Nat.le_of_ble_eq_true rfl) ?_
    exact VE_iret (pc := 27) dX12_like_27 rfl rfl rfl
  · refine V_iload_n (pc := 13) (i := 2) dX12_like_13 rfl rfl ?_
    refine V_if_lt (pc := 14) 22 dX12_like_14 rfl (fun c14 => ?_) (fun c14 => ?_)
    · refine V_aload_n (pc := 22) (i := 0) dX12_like_22 rfl rfl ?_
      refine V_iconst (pc := 23) (v := 1) dX12_like_23 (by decide) ?_
      refine V_V1i (pc := 24) dX12_like_24 cX12_287 (by first | assumption | rfl) (X12_fail (d := 0) 1 hb) (Nat.le_of_ble_eq_true rfl) (by omega) (Nat.le_of_ble_eq_true rfl) ?_
      exact VE_iret (pc := 27) dX12_like_27 rfl rfl rfl
    · refine V_iload_n (pc := 17) (i := 2) dX12_like_17 rfl rfl ?_
      refine V_iconst (pc := 18) (v := 1) dX12_like_18 (by decide) ?_
      refine V_icmp_le (pc := 19) 28 dX12_like_19 rfl (fun c19 => ?_) (fun c19 => ?_)
      · exact hx.elim (fun q => absurd (b2i_n0.mp c10) (by rw [q]; decide)) (fun q0 => (fun q => q.elim (fun z => absurd z c14) (fun z => absurd c19 (Int32.not_le.mpr z))) q0)
      · refine V_aload_n (pc := 22) (i := 0) dX12_like_22 rfl rfl ?_
        refine V_iconst (pc := 23) (v := 1) dX12_like_23 (by decide) ?_
        refine V_V1i (pc := 24) dX12_like_24 cX12_287 (by first | assumption | rfl) (X12_fail (d := 0) 1 hb) (Nat.le_of_ble_eq_true rfl) (by omega) (Nat.le_of_ble_eq_true rfl) ?_
        exact VE_iret (pc := 27) dX12_like_27 rfl rfl rfl
theorem X12_look_bad1 {pp : Nat} (hp : S 3 0 = nI pp) (h8 : pp ≤ 8) {x1 x2 : Int32} (hx : inR x1 0 (nI pp - 1) = false ∨ (x2 < 0 ∨ 1 < x2)) (hb : gB G ≤ b) (hd : 2 ≤ d) : VM G mX12_look d 0 0 [.ref (b + 0), .int x1, .int x2] (xE (some (.int 0)) (wH G b tbM (up2 (up2 S 0 2 0) 0 2 1) h0)) (wH G b tbM S h0) := by
  refine VM_start (ls := [some (.ref (b + 0)), some (.int x1), some (.int x2), none, none, none, none, none, none]) rfl ?_
  -- %m X12_look
  refine V_aload_n (pc := 0) (i := 0) dX12_look_0 rfl rfl ?_
  refine V_iconst (pc := 1) (v := 0) dX12_look_1 (by decide) ?_
  refine VW_putI (pc := 2) dX12_look_2 fX12_139 ftX12 (fpI rfl rfl (tyX12_ok 2 (by decide))) (by first | assumption | rfl) rfl (by assumption) ?_
  refine V_aload_n (pc := 5) (i := 0) dX12_look_5 rfl rfl ?_
  refine V_iload_n (pc := 6) (i := 1) dX12_look_6 rfl rfl ?_
  refine V_V1i (pc := 7) dX12_look_7 cX12_384 (by first | assumption | rfl) (X12_isPerson (d := 1) _ (by omega)) (Nat.le_of_ble_eq_true rfl) (by omega) (Nat.le_of_ble_eq_true rfl) ?_
  rw [up2_row (by decide), hp]
  refine V_if_eq (pc := 10) 22 dX12_look_10 rfl (fun c10 => ?_) (fun c10 => ?_)
  · refine V_aload_n (pc := 22) (i := 0) dX12_look_22 rfl rfl ?_
    refine V_iconst (pc := 23) (v := 1) dX12_look_23 (by decide) ?_
    refine V_V1i (pc := 24) dX12_look_24 cX12_287 (by first | assumption | rfl) (X12_fail (d := 0) 1 hb) (Nat.le_of_ble_eq_true rfl) (by omega) (Nat.le_of_ble_eq_true rfl) ?_
    exact VE_iret (pc := 27) dX12_look_27 rfl rfl rfl
  · refine V_iload_n (pc := 13) (i := 2) dX12_look_13 rfl rfl ?_
    refine V_if_lt (pc := 14) 22 dX12_look_14 rfl (fun c14 => ?_) (fun c14 => ?_)
    · refine V_aload_n (pc := 22) (i := 0) dX12_look_22 rfl rfl ?_
      refine V_iconst (pc := 23) (v := 1) dX12_look_23 (by decide) ?_
      refine V_V1i (pc := 24) dX12_look_24 cX12_287 (by first | assumption | rfl) (X12_fail (d := 0) 1 hb) (Nat.le_of_ble_eq_true rfl) (by omega) (Nat.le_of_ble_eq_true rfl) ?_
      exact VE_iret (pc := 27) dX12_look_27 rfl rfl rfl
    · refine V_iload_n (pc := 17) (i := 2) dX12_look_17 rfl rfl ?_
      refine V_iconst (pc := 18) (v := 1) dX12_look_18 (by decide) ?_
      refine V_icmp_le (pc := 19) 28 dX12_look_19 rfl (fun c19 => ?_) (fun c19 => ?_)
      · exact hx.elim (fun q => absurd (b2i_n0.mp c10) (by rw [q]; decide)) (fun q0 => (fun q => q.elim (fun z => absurd z c14) (fun z => absurd c19 (Int32.not_le.mpr z))) q0)
      · refine V_aload_n (pc := 22) (i := 0) dX12_look_22 rfl rfl ?_
        refine V_iconst (pc := 23) (v := 1) dX12_look_23 (by decide) ?_
        refine V_V1i (pc := 24) dX12_look_24 cX12_287 (by first | assumption | rfl) (X12_fail (d := 0) 1 hb) (Nat.le_of_ble_eq_true rfl) (by omega) (Nat.le_of_ble_eq_true rfl) ?_
        exact VE_iret (pc := 27) dX12_look_27 rfl rfl rfl
theorem X12_miss_bad1 {pp : Nat} (hp : S 3 0 = nI pp) (h8 : pp ≤ 8) {x1 x2 : Int32} (hx : inR x1 0 (nI pp - 1) = false ∨ inR x2 0 9 = false) (hb : gB G ≤ b) (hd : 2 ≤ d) : VM G mX12_miss d 0 0 [.ref (b + 0), .int x1, .int x2] (xE (some (.int 0)) (wH G b tbM (up2 (up2 S 0 2 0) 0 2 1) h0)) (wH G b tbM S h0) := by
  refine VM_start (ls := [some (.ref (b + 0)), some (.int x1), some (.int x2), none]) rfl ?_
  -- %m X12_miss
  refine V_aload_n (pc := 0) (i := 0) dX12_miss_0 rfl rfl ?_
  refine V_iconst (pc := 1) (v := 0) dX12_miss_1 (by decide) ?_
  refine VW_putI (pc := 2) dX12_miss_2 fX12_139 ftX12 (fpI rfl rfl (tyX12_ok 2 (by decide))) (by first | assumption | rfl) rfl (by assumption) ?_
  refine V_aload_n (pc := 5) (i := 0) dX12_miss_5 rfl rfl ?_
  refine V_iload_n (pc := 6) (i := 1) dX12_miss_6 rfl rfl ?_
  refine V_V1i (pc := 7) dX12_miss_7 cX12_384 (by first | assumption | rfl) (X12_isPerson (d := 1) _ (by omega)) (Nat.le_of_ble_eq_true rfl) (by omega) (Nat.le_of_ble_eq_true rfl) ?_
  rw [up2_row (by decide), hp]
  refine V_if_eq (pc := 10) 20 dX12_miss_10 rfl (fun c10 => ?_) (fun c10 => ?_)
  · refine V_aload_n (pc := 20) (i := 0) dX12_miss_20 rfl rfl ?_
    refine V_iconst (pc := 21) (v := 1) dX12_miss_21 (by decide) ?_
    refine V_V1i (pc := 22) dX12_miss_22 cX12_287 (by first | assumption | rfl) (X12_fail (d := 0) 1 hb) (Nat.le_of_ble_eq_true rfl) (by omega) (Nat.le_of_ble_eq_true rfl) ?_
    exact VE_iret (pc := 25) dX12_miss_25 rfl rfl rfl
  · refine V_iload_n (pc := 13) (i := 2) dX12_miss_13 rfl rfl ?_
    refine V_S1i (pc := 14) dX12_miss_14 cX12_378 (X12_isThing (d := 1) _ (by omega)) (Nat.le_of_ble_eq_true rfl) (by omega) (Nat.le_of_ble_eq_true rfl) ?_
    refine V_if_ne (pc := 17) 26 dX12_miss_17 rfl (fun c17 => ?_) (fun c17 => ?_)
    · exact hx.elim (fun q => absurd (b2i_n0.mp c10) (by rw [q]; decide)) (fun q0 => (fun q => absurd (b2i_n0.mp c17) (by rw [q]; decide)) q0)
    · refine V_aload_n (pc := 20) (i := 0) dX12_miss_20 rfl rfl ?_
      refine V_iconst (pc := 21) (v := 1) dX12_miss_21 (by decide) ?_
      refine V_V1i (pc := 22) dX12_miss_22 cX12_287 (by first | assumption | rfl) (X12_fail (d := 0) 1 hb) (Nat.le_of_ble_eq_true rfl) (by omega) (Nat.le_of_ble_eq_true rfl) ?_
      exact VE_iret (pc := 25) dX12_miss_25 rfl rfl rfl
theorem X12_needed_bad1 {y1 x2 : Int32} (hx : inR x2 0 9 = false) (hb : gB G ≤ b) (hd : 2 ≤ d) : VM G mX12_needed d 0 0 [.ref (b + 0), .int y1, .int x2] (xE (some (.int 0)) (wH G b tbM (up2 (up2 S 0 2 0) 0 2 1) h0)) (wH G b tbM S h0) := by
  refine VM_start (ls := [some (.ref (b + 0)), some (.int y1), some (.int x2)]) rfl ?_
  -- %m X12_needed
  refine V_aload_n (pc := 0) (i := 0) dX12_needed_0 rfl rfl ?_
  refine V_iconst (pc := 1) (v := 0) dX12_needed_1 (by decide) ?_
  refine VW_putI (pc := 2) dX12_needed_2 fX12_139 ftX12 (fpI rfl rfl (tyX12_ok 2 (by decide))) (by first | assumption | rfl) rfl (by assumption) ?_
  refine V_iload_n (pc := 5) (i := 2) dX12_needed_5 rfl rfl ?_
  refine V_S1i (pc := 6) dX12_needed_6 cX12_378 (X12_isThing (d := 1) _ (by omega)) (Nat.le_of_ble_eq_true rfl) (by omega) (Nat.le_of_ble_eq_true rfl) ?_
  refine V_if_ne (pc := 9) 18 dX12_needed_9 rfl (fun c9 => ?_) (fun c9 => ?_)
  · exact (fun q => absurd (b2i_n0.mp c9) (by rw [q]; decide)) hx
  · refine V_aload_n (pc := 12) (i := 0) dX12_needed_12 rfl rfl ?_
    refine V_iconst (pc := 13) (v := 1) dX12_needed_13 (by decide) ?_
    refine V_V1i (pc := 14) dX12_needed_14 cX12_287 (by first | assumption | rfl) (X12_fail (d := 0) 1 hb) (Nat.le_of_ble_eq_true rfl) (by omega) (Nat.le_of_ble_eq_true rfl) ?_
    exact VE_iret (pc := 17) dX12_needed_17 rfl rfl rfl
theorem X12_needed_bad2 {k2 : Nat} {x1 : Int32} (h2 : 0 ≤ k2 ∧ k2 ≤ 9) (hx : inR x1 0 1023 = false) (hb : gB G ≤ b) (hd : 2 ≤ d) : VM G mX12_needed d 0 0 [.ref (b + 0), .int x1, .int (nI k2)] (xE (some (.int 0)) (wH G b tbM (up2 (up2 S 0 2 0) 0 2 2) h0)) (wH G b tbM S h0) := by
  have h2i : inR (nI k2) 0 9 = true := inR_ok (l := 0) (m := 9) (by omega) (by omega) (by decide)
  refine VM_start (ls := [some (.ref (b + 0)), some (.int x1), some (.int (nI k2))]) rfl ?_
  -- %m X12_needed
  refine V_aload_n (pc := 0) (i := 0) dX12_needed_0 rfl rfl ?_
  refine V_iconst (pc := 1) (v := 0) dX12_needed_1 (by decide) ?_
  refine VW_putI (pc := 2) dX12_needed_2 fX12_139 ftX12 (fpI rfl rfl (tyX12_ok 2 (by decide))) (by first | assumption | rfl) rfl (by assumption) ?_
  refine V_iload_n (pc := 5) (i := 2) dX12_needed_5 rfl rfl ?_
  refine V_S1i (pc := 6) dX12_needed_6 cX12_378 (X12_isThing (d := 1) _ (by omega)) (Nat.le_of_ble_eq_true rfl) (by omega) (Nat.le_of_ble_eq_true rfl) ?_
  refine V_if_ne (pc := 9) 18 dX12_needed_9 rfl (fun c9 => ?_) (fun c9 => ?_)
  · refine V_iload_n (pc := 18) (i := 1) dX12_needed_18 rfl rfl ?_
    refine V_S1i (pc := 19) dX12_needed_19 cX12_412 (X12_isSet (d := 1) _ (by omega)) (Nat.le_of_ble_eq_true rfl) (by omega) (Nat.le_of_ble_eq_true rfl) ?_
    refine V_if_ne (pc := 22) 31 dX12_needed_22 rfl (fun c22 => ?_) (fun c22 => ?_)
    · exact (fun q => absurd (b2i_n0.mp c22) (by rw [q]; decide)) hx
    · refine V_aload_n (pc := 25) (i := 0) dX12_needed_25 rfl rfl ?_
      refine V_iconst (pc := 26) (v := 2) dX12_needed_26 (by decide) ?_
      refine V_V1i (pc := 27) dX12_needed_27 cX12_287 (by first | assumption | rfl) (X12_fail (d := 0) 2 hb) (Nat.le_of_ble_eq_true rfl) (by omega) (Nat.le_of_ble_eq_true rfl) ?_
      exact VE_iret (pc := 30) dX12_needed_30 rfl rfl rfl
  · rw [h2i] at c9; exact absurd c9 (by decide)
theorem X12_person_bad1 {pp : Nat} (hp : S 3 0 = nI pp) (h8 : pp ≤ 8) {x1 y2 : Int32} (hx : inR x1 0 (nI pp - 1) = false) (hb : gB G ≤ b) (hd : 2 ≤ d) : VM G mX12_person d 0 0 [.ref (b + 0), .int x1, .int y2] (xE (some (.int 0)) (wH G b tbM (up2 (up2 S 0 2 0) 0 2 1) h0)) (wH G b tbM S h0) := by
  refine VM_start (ls := [some (.ref (b + 0)), some (.int x1), some (.int y2)]) rfl ?_
  -- %m X12_person
  refine V_aload_n (pc := 0) (i := 0) dX12_person_0 rfl rfl ?_
  refine V_iconst (pc := 1) (v := 0) dX12_person_1 (by decide) ?_
  refine VW_putI (pc := 2) dX12_person_2 fX12_139 ftX12 (fpI rfl rfl (tyX12_ok 2 (by decide))) (by first | assumption | rfl) rfl (by assumption) ?_
  refine V_aload_n (pc := 5) (i := 0) dX12_person_5 rfl rfl ?_
  refine V_iload_n (pc := 6) (i := 1) dX12_person_6 rfl rfl ?_
  refine V_V1i (pc := 7) dX12_person_7 cX12_384 (by first | assumption | rfl) (X12_isPerson (d := 1) _ (by omega)) (Nat.le_of_ble_eq_true rfl) (by omega) (Nat.le_of_ble_eq_true rfl) ?_
  rw [up2_row (by decide), hp]
  refine V_if_ne (pc := 10) 19 dX12_person_10 rfl (fun c10 => ?_) (fun c10 => ?_)
  · exact (fun q => absurd (b2i_n0.mp c10) (by rw [q]; decide)) hx
  · refine V_aload_n (pc := 13) (i := 0) dX12_person_13 rfl rfl ?_
    refine V_iconst (pc := 14) (v := 1) dX12_person_14 (by decide) ?_
    refine V_V1i (pc := 15) dX12_person_15 cX12_287 (by first | assumption | rfl) (X12_fail (d := 0) 1 hb) (Nat.le_of_ble_eq_true rfl) (by omega) (Nat.le_of_ble_eq_true rfl) ?_
    exact VE_iret (pc := 18) dX12_person_18 rfl rfl rfl
theorem X12_see_bad1 {pp : Nat} (hp : S 3 0 = nI pp) (h8 : pp ≤ 8) {x1 x2 y3 : Int32} (hx : inR x1 0 (nI pp - 1) = false ∨ inR x2 0 9 = false) (hb : gB G ≤ b) (hd : 2 ≤ d) : VM G mX12_see d 0 0 [.ref (b + 0), .int x1, .int x2, .int y3] (xE (some (.int 0)) (wH G b tbM (up2 (up2 S 0 2 0) 0 2 1) h0)) (wH G b tbM S h0) := by
  refine VM_start (ls := [some (.ref (b + 0)), some (.int x1), some (.int x2), some (.int y3)]) rfl ?_
  -- %m X12_see
  refine V_aload_n (pc := 0) (i := 0) dX12_see_0 rfl rfl ?_
  refine V_iconst (pc := 1) (v := 0) dX12_see_1 (by decide) ?_
  refine VW_putI (pc := 2) dX12_see_2 fX12_139 ftX12 (fpI rfl rfl (tyX12_ok 2 (by decide))) (by first | assumption | rfl) rfl (by assumption) ?_
  refine V_aload_n (pc := 5) (i := 0) dX12_see_5 rfl rfl ?_
  refine V_iload_n (pc := 6) (i := 1) dX12_see_6 rfl rfl ?_
  refine V_V1i (pc := 7) dX12_see_7 cX12_384 (by first | assumption | rfl) (X12_isPerson (d := 1) _ (by omega)) (Nat.le_of_ble_eq_true rfl) (by omega) (Nat.le_of_ble_eq_true rfl) ?_
  rw [up2_row (by decide), hp]
  refine V_if_eq (pc := 10) 20 dX12_see_10 rfl (fun c10 => ?_) (fun c10 => ?_)
  · refine V_aload_n (pc := 20) (i := 0) dX12_see_20 rfl rfl ?_
    refine V_iconst (pc := 21) (v := 1) dX12_see_21 (by decide) ?_
    refine V_V1i (pc := 22) dX12_see_22 cX12_287 (by first | assumption | rfl) (X12_fail (d := 0) 1 hb) (Nat.le_of_ble_eq_true rfl) (by omega) (Nat.le_of_ble_eq_true rfl) ?_
    exact VE_iret (pc := 25) dX12_see_25 rfl rfl rfl
  · refine V_iload_n (pc := 13) (i := 2) dX12_see_13 rfl rfl ?_
    refine V_S1i (pc := 14) dX12_see_14 cX12_378 (X12_isThing (d := 1) _ (by omega)) (Nat.le_of_ble_eq_true rfl) (by omega) (Nat.le_of_ble_eq_true rfl) ?_
    refine V_if_ne (pc := 17) 26 dX12_see_17 rfl (fun c17 => ?_) (fun c17 => ?_)
    · exact hx.elim (fun q => absurd (b2i_n0.mp c10) (by rw [q]; decide)) (fun q0 => (fun q => absurd (b2i_n0.mp c17) (by rw [q]; decide)) q0)
    · refine V_aload_n (pc := 20) (i := 0) dX12_see_20 rfl rfl ?_
      refine V_iconst (pc := 21) (v := 1) dX12_see_21 (by decide) ?_
      refine V_V1i (pc := 22) dX12_see_22 cX12_287 (by first | assumption | rfl) (X12_fail (d := 0) 1 hb) (Nat.le_of_ble_eq_true rfl) (by omega) (Nat.le_of_ble_eq_true rfl) ?_
      exact VE_iret (pc := 25) dX12_see_25 rfl rfl rfl
theorem X12_sets_bad1 {x1 : Int32} (hx : inR x1 0 9 = false) (hb : gB G ≤ b) (hd : 2 ≤ d) : VM G mX12_sets d 0 0 [.ref (b + 0), .int x1] (xE (some (.int 0)) (wH G b tbM (up2 (up2 S 0 2 0) 0 2 1) h0)) (wH G b tbM S h0) := by
  refine VM_start (ls := [some (.ref (b + 0)), some (.int x1), none, none]) rfl ?_
  -- %m X12_sets
  refine V_aload_n (pc := 0) (i := 0) dX12_sets_0 rfl rfl ?_
  refine V_iconst (pc := 1) (v := 0) dX12_sets_1 (by decide) ?_
  refine VW_putI (pc := 2) dX12_sets_2 fX12_139 ftX12 (fpI rfl rfl (tyX12_ok 2 (by decide))) (by first | assumption | rfl) rfl (by assumption) ?_
  refine V_iload_n (pc := 5) (i := 1) dX12_sets_5 rfl rfl ?_
  refine V_S1i (pc := 6) dX12_sets_6 cX12_378 (X12_isThing (d := 1) _ (by omega)) (Nat.le_of_ble_eq_true rfl) (by omega) (Nat.le_of_ble_eq_true rfl) ?_
  refine V_if_ne (pc := 9) 18 dX12_sets_9 rfl (fun c9 => ?_) (fun c9 => ?_)
  · exact (fun q => absurd (b2i_n0.mp c9) (by rw [q]; decide)) hx
  · refine V_aload_n (pc := 12) (i := 0) dX12_sets_12 rfl rfl ?_
    refine V_iconst (pc := 13) (v := 1) dX12_sets_13 (by decide) ?_
    refine V_V1i (pc := 14) dX12_sets_14 cX12_287 (by first | assumption | rfl) (X12_fail (d := 0) 1 hb) (Nat.le_of_ble_eq_true rfl) (by omega) (Nat.le_of_ble_eq_true rfl) ?_
    exact VE_iret (pc := 17) dX12_sets_17 rfl rfl rfl
theorem X12_sources_bad1 {x1 : Int32} (hx : inR x1 0 9 = false) (hb : gB G ≤ b) (hd : 2 ≤ d) : VM G mX12_sources d 0 0 [.ref (b + 0), .int x1] (xE (some (.int 0)) (wH G b tbM (up2 (up2 S 0 2 0) 0 2 1) h0)) (wH G b tbM S h0) := by
  refine VM_start (ls := [some (.ref (b + 0)), some (.int x1), none, none]) rfl ?_
  -- %m X12_sources
  refine V_aload_n (pc := 0) (i := 0) dX12_sources_0 rfl rfl ?_
  refine V_iconst (pc := 1) (v := 0) dX12_sources_1 (by decide) ?_
  refine VW_putI (pc := 2) dX12_sources_2 fX12_139 ftX12 (fpI rfl rfl (tyX12_ok 2 (by decide))) (by first | assumption | rfl) rfl (by assumption) ?_
  refine V_iload_n (pc := 5) (i := 1) dX12_sources_5 rfl rfl ?_
  refine V_S1i (pc := 6) dX12_sources_6 cX12_378 (X12_isThing (d := 1) _ (by omega)) (Nat.le_of_ble_eq_true rfl) (by omega) (Nat.le_of_ble_eq_true rfl) ?_
  refine V_if_ne (pc := 9) 18 dX12_sources_9 rfl (fun c9 => ?_) (fun c9 => ?_)
  · exact (fun q => absurd (b2i_n0.mp c9) (by rw [q]; decide)) hx
  · refine V_aload_n (pc := 12) (i := 0) dX12_sources_12 rfl rfl ?_
    refine V_iconst (pc := 13) (v := 1) dX12_sources_13 (by decide) ?_
    refine V_V1i (pc := 14) dX12_sources_14 cX12_287 (by first | assumption | rfl) (X12_fail (d := 0) 1 hb) (Nat.le_of_ble_eq_true rfl) (by omega) (Nat.le_of_ble_eq_true rfl) ?_
    exact VE_iret (pc := 17) dX12_sources_17 rfl rfl rfl
theorem X12_tells_bad1 {pp : Nat} (hp : S 3 0 = nI pp) (h8 : pp ≤ 8) {x1 : Int32} (hx : inR x1 0 (nI pp - 1) = false) (hb : gB G ≤ b) (hd : 2 ≤ d) : VM G mX12_tells d 0 0 [.ref (b + 0), .int x1] (xE (some (.int 0)) (wH G b tbM (up2 (up2 S 0 2 0) 0 2 1) h0)) (wH G b tbM S h0) := by
  refine VM_start (ls := [some (.ref (b + 0)), some (.int x1)]) rfl ?_
  -- %m X12_tells
  refine V_aload_n (pc := 0) (i := 0) dX12_tells_0 rfl rfl ?_
  refine V_iconst (pc := 1) (v := 0) dX12_tells_1 (by decide) ?_
  refine VW_putI (pc := 2) dX12_tells_2 fX12_139 ftX12 (fpI rfl rfl (tyX12_ok 2 (by decide))) (by first | assumption | rfl) rfl (by assumption) ?_
  refine V_aload_n (pc := 5) (i := 0) dX12_tells_5 rfl rfl ?_
  refine V_iload_n (pc := 6) (i := 1) dX12_tells_6 rfl rfl ?_
  refine V_V1i (pc := 7) dX12_tells_7 cX12_384 (by first | assumption | rfl) (X12_isPerson (d := 1) _ (by omega)) (Nat.le_of_ble_eq_true rfl) (by omega) (Nat.le_of_ble_eq_true rfl) ?_
  rw [up2_row (by decide), hp]
  refine V_if_eq (pc := 10) 21 dX12_tells_10 rfl (fun c10 => ?_) (fun c10 => ?_)
  · refine V_aload_n (pc := 21) (i := 0) dX12_tells_21 rfl rfl ?_
    refine V_iconst (pc := 22) (v := 1) dX12_tells_22 (by decide) ?_
    refine V_V1i (pc := 23) dX12_tells_23 cX12_287 (by first | assumption | rfl) (X12_fail (d := 0) 1 hb) (Nat.le_of_ble_eq_true rfl) (by omega) (Nat.le_of_ble_eq_true rfl) ?_
    exact VE_iret (pc := 26) dX12_tells_26 rfl rfl rfl
  · exact (fun q => absurd (b2i_n0.mp c10) (by rw [q]; decide)) hx
theorem X12_then_bad1 {pp : Nat} (hp : S 3 0 = nI pp) (h8 : pp ≤ 8) {x1 y2 x3 : Int32} (hx : inR x1 0 (nI pp - 1) = false ∨ (x3 < 0 ∨ 1 < x3)) (hb : gB G ≤ b) (hd : 2 ≤ d) : VM G mX12_then d 0 0 [.ref (b + 0), .int x1, .int y2, .int x3] (xE (some (.int 0)) (wH G b tbM (up2 (up2 S 0 2 0) 0 2 1) h0)) (wH G b tbM S h0) := by
  refine VM_start (ls := [some (.ref (b + 0)), some (.int x1), some (.int y2), some (.int x3), none]) rfl ?_
  -- %m X12_then
  refine V_aload_n (pc := 0) (i := 0) dX12_then_0 rfl rfl ?_
  refine V_iconst (pc := 1) (v := 0) dX12_then_1 (by decide) ?_
  refine VW_putI (pc := 2) dX12_then_2 fX12_139 ftX12 (fpI rfl rfl (tyX12_ok 2 (by decide))) (by first | assumption | rfl) rfl (by assumption) ?_
  refine V_aload_n (pc := 5) (i := 0) dX12_then_5 rfl rfl ?_
  refine V_iload_n (pc := 6) (i := 1) dX12_then_6 rfl rfl ?_
  refine V_V1i (pc := 7) dX12_then_7 cX12_384 (by first | assumption | rfl) (X12_isPerson (d := 1) _ (by omega)) (Nat.le_of_ble_eq_true rfl) (by omega) (Nat.le_of_ble_eq_true rfl) ?_
  rw [up2_row (by decide), hp]
  refine V_if_eq (pc := 10) 22 dX12_then_10 rfl (fun c10 => ?_) (fun c10 => ?_)
  · refine V_aload_n (pc := 22) (i := 0) dX12_then_22 rfl rfl ?_
    refine V_iconst (pc := 23) (v := 1) dX12_then_23 (by decide) ?_
    refine V_V1i (pc := 24) dX12_then_24 cX12_287 (by first | assumption | rfl) (X12_fail (d := 0) 1 hb) (Nat.le_of_ble_eq_true rfl) (by omega) (Nat.le_of_ble_eq_true rfl) ?_
    exact VE_iret (pc := 27) dX12_then_27 rfl rfl rfl
  · refine V_iload_n (pc := 13) (i := 3) dX12_then_13 rfl rfl ?_
    refine V_if_lt (pc := 14) 22 dX12_then_14 rfl (fun c14 => ?_) (fun c14 => ?_)
    · refine V_aload_n (pc := 22) (i := 0) dX12_then_22 rfl rfl ?_
      refine V_iconst (pc := 23) (v := 1) dX12_then_23 (by decide) ?_
      refine V_V1i (pc := 24) dX12_then_24 cX12_287 (by first | assumption | rfl) (X12_fail (d := 0) 1 hb) (Nat.le_of_ble_eq_true rfl) (by omega) (Nat.le_of_ble_eq_true rfl) ?_
      exact VE_iret (pc := 27) dX12_then_27 rfl rfl rfl
    · refine V_iload_n (pc := 17) (i := 3) dX12_then_17 rfl rfl ?_
      refine V_iconst (pc := 18) (v := 1) dX12_then_18 (by decide) ?_
      refine V_icmp_le (pc := 19) 28 dX12_then_19 rfl (fun c19 => ?_) (fun c19 => ?_)
      · exact hx.elim (fun q => absurd (b2i_n0.mp c10) (by rw [q]; decide)) (fun q0 => (fun q => q.elim (fun z => absurd z c14) (fun z => absurd c19 (Int32.not_le.mpr z))) q0)
      · refine V_aload_n (pc := 22) (i := 0) dX12_then_22 rfl rfl ?_
        refine V_iconst (pc := 23) (v := 1) dX12_then_23 (by decide) ?_
        refine V_V1i (pc := 24) dX12_then_24 cX12_287 (by first | assumption | rfl) (X12_fail (d := 0) 1 hb) (Nat.le_of_ble_eq_true rfl) (by omega) (Nat.le_of_ble_eq_true rfl) ?_
        exact VE_iret (pc := 27) dX12_then_27 rfl rfl rfl
theorem X12_then_bad2 {k1 k3 : Nat} {pp : Nat} (hp : S 3 0 = nI pp) (h8 : pp ≤ 8) {x2 : Int32} (h1 : k1 < pp) (h3 : k3 ≤ 1) (hx : inR x2 0 60 = false) (hb : gB G ≤ b) (hd : 2 ≤ d) : VM G mX12_then d 0 0 [.ref (b + 0), .int (nI k1), .int x2, .int (nI k3)] (xE (some (.int 0)) (wH G b tbM (up2 (up2 S 0 2 0) 0 2 2) h0)) (wH G b tbM S h0) := by
  have h1i : inR (nI k1) 0 (nI pp - 1) = true := inR_pp (by omega) (by omega)
  refine VM_start (ls := [some (.ref (b + 0)), some (.int (nI k1)), some (.int x2), some (.int (nI k3)), none]) rfl ?_
  -- %m X12_then
  refine V_aload_n (pc := 0) (i := 0) dX12_then_0 rfl rfl ?_
  refine V_iconst (pc := 1) (v := 0) dX12_then_1 (by decide) ?_
  refine VW_putI (pc := 2) dX12_then_2 fX12_139 ftX12 (fpI rfl rfl (tyX12_ok 2 (by decide))) (by first | assumption | rfl) rfl (by assumption) ?_
  refine V_aload_n (pc := 5) (i := 0) dX12_then_5 rfl rfl ?_
  refine V_iload_n (pc := 6) (i := 1) dX12_then_6 rfl rfl ?_
  refine V_V1i (pc := 7) dX12_then_7 cX12_384 (by first | assumption | rfl) (X12_isPerson (d := 1) _ (by omega)) (Nat.le_of_ble_eq_true rfl) (by omega) (Nat.le_of_ble_eq_true rfl) ?_
  rw [up2_row (by decide), hp]
  refine V_if_eq (pc := 10) 22 dX12_then_10 rfl (fun c10 => ?_) (fun c10 => ?_)
  · rw [h1i] at c10; exact absurd c10 (by decide)
  · refine V_iload_n (pc := 13) (i := 3) dX12_then_13 rfl rfl ?_
    refine V_if_lt (pc := 14) 22 dX12_then_14 rfl (fun c14 => ?_) (fun c14 => ?_)
    · exact absurd c14 (nI_pos (by omega))
    · refine V_iload_n (pc := 17) (i := 3) dX12_then_17 rfl rfl ?_
      refine V_iconst (pc := 18) (v := 1) dX12_then_18 (by decide) ?_
      refine V_icmp_le (pc := 19) 28 dX12_then_19 rfl (fun c19 => ?_) (fun c19 => ?_)
      · refine V_iload_n (pc := 28) (i := 2) dX12_then_28 rfl rfl ?_
        refine V_i2l (pc := 29) dX12_then_29 rfl ?_
        refine V_lconst (pc := 30) (v := 0) dX12_then_30 (by decide) ?_
        refine V_ldc2 (pc := 31) dX12_then_31 lX12_410 ?_
        refine V_S3i (pc := 34) dX12_then_34 cX12_142 (X12_isInC (d := 0) _ (l' := 0) (m' := 60) (by decide) (by decide)) (Nat.le_of_ble_eq_true rfl) (by omega) (Nat.le_of_ble_eq_true rfl) ?_
        refine V_if_ne (pc := 37) 46 dX12_then_37 rfl (fun c37 => ?_) (fun c37 => ?_)
        · exact (fun q => absurd (b2i_n0.mp c37) (by rw [q]; decide)) hx
        · refine V_aload_n (pc := 40) (i := 0) dX12_then_40 rfl rfl ?_
          refine V_iconst (pc := 41) (v := 2) dX12_then_41 (by decide) ?_
          refine V_V1i (pc := 42) dX12_then_42 cX12_287 (by first | assumption | rfl) (X12_fail (d := 0) 2 hb) (Nat.le_of_ble_eq_true rfl) (by omega) (Nat.le_of_ble_eq_true rfl) ?_
          exact VE_iret (pc := 45) dX12_then_45 rfl rfl rfl
      · exact absurd (nI_le (b := 1) (by omega) (by decide)) c19
theorem X12_times_bad1 {pp : Nat} (hp : S 3 0 = nI pp) (h8 : pp ≤ 8) {x1 y2 : Int32} (hx : inR x1 0 (nI pp - 1) = false) (hb : gB G ≤ b) (hd : 2 ≤ d) : VM G mX12_times d 0 0 [.ref (b + 0), .int x1, .int y2] (xE (some (.int 0)) (wH G b tbM (up2 (up2 S 0 2 0) 0 2 1) h0)) (wH G b tbM S h0) := by
  refine VM_start (ls := [some (.ref (b + 0)), some (.int x1), some (.int y2), none, none]) rfl ?_
  -- %m X12_times
  refine V_aload_n (pc := 0) (i := 0) dX12_times_0 rfl rfl ?_
  refine V_iconst (pc := 1) (v := 0) dX12_times_1 (by decide) ?_
  refine VW_putI (pc := 2) dX12_times_2 fX12_139 ftX12 (fpI rfl rfl (tyX12_ok 2 (by decide))) (by first | assumption | rfl) rfl (by assumption) ?_
  refine V_aload_n (pc := 5) (i := 0) dX12_times_5 rfl rfl ?_
  refine V_iload_n (pc := 6) (i := 1) dX12_times_6 rfl rfl ?_
  refine V_V1i (pc := 7) dX12_times_7 cX12_384 (by first | assumption | rfl) (X12_isPerson (d := 1) _ (by omega)) (Nat.le_of_ble_eq_true rfl) (by omega) (Nat.le_of_ble_eq_true rfl) ?_
  rw [up2_row (by decide), hp]
  refine V_if_ne (pc := 10) 19 dX12_times_10 rfl (fun c10 => ?_) (fun c10 => ?_)
  · exact (fun q => absurd (b2i_n0.mp c10) (by rw [q]; decide)) hx
  · refine V_aload_n (pc := 13) (i := 0) dX12_times_13 rfl rfl ?_
    refine V_iconst (pc := 14) (v := 1) dX12_times_14 (by decide) ?_
    refine V_V1i (pc := 15) dX12_times_15 cX12_287 (by first | assumption | rfl) (X12_fail (d := 0) 1 hb) (Nat.le_of_ble_eq_true rfl) (by omega) (Nat.le_of_ble_eq_true rfl) ?_
    exact VE_iret (pc := 18) dX12_times_18 rfl rfl rfl
theorem X12_times_bad2 {k1 : Nat} {pp : Nat} (hp : S 3 0 = nI pp) (h8 : pp ≤ 8) {x2 : Int32} (h1 : k1 < pp) (hx : inR x2 0 60 = false) (hb : gB G ≤ b) (hd : 2 ≤ d) : VM G mX12_times d 0 0 [.ref (b + 0), .int (nI k1), .int x2] (xE (some (.int 0)) (wH G b tbM (up2 (up2 S 0 2 0) 0 2 2) h0)) (wH G b tbM S h0) := by
  have h1i : inR (nI k1) 0 (nI pp - 1) = true := inR_pp (by omega) (by omega)
  refine VM_start (ls := [some (.ref (b + 0)), some (.int (nI k1)), some (.int x2), none, none]) rfl ?_
  -- %m X12_times
  refine V_aload_n (pc := 0) (i := 0) dX12_times_0 rfl rfl ?_
  refine V_iconst (pc := 1) (v := 0) dX12_times_1 (by decide) ?_
  refine VW_putI (pc := 2) dX12_times_2 fX12_139 ftX12 (fpI rfl rfl (tyX12_ok 2 (by decide))) (by first | assumption | rfl) rfl (by assumption) ?_
  refine V_aload_n (pc := 5) (i := 0) dX12_times_5 rfl rfl ?_
  refine V_iload_n (pc := 6) (i := 1) dX12_times_6 rfl rfl ?_
  refine V_V1i (pc := 7) dX12_times_7 cX12_384 (by first | assumption | rfl) (X12_isPerson (d := 1) _ (by omega)) (Nat.le_of_ble_eq_true rfl) (by omega) (Nat.le_of_ble_eq_true rfl) ?_
  rw [up2_row (by decide), hp]
  refine V_if_ne (pc := 10) 19 dX12_times_10 rfl (fun c10 => ?_) (fun c10 => ?_)
  · refine V_iload_n (pc := 19) (i := 2) dX12_times_19 rfl rfl ?_
    refine V_i2l (pc := 20) dX12_times_20 rfl ?_
    refine V_lconst (pc := 21) (v := 0) dX12_times_21 (by decide) ?_
    refine V_ldc2 (pc := 22) dX12_times_22 lX12_410 ?_
    refine V_S3i (pc := 25) dX12_times_25 cX12_142 (X12_isInC (d := 0) _ (l' := 0) (m' := 60) (by decide) (by decide)) (Nat.le_of_ble_eq_true rfl) (by omega) (Nat.le_of_ble_eq_true rfl) ?_
    refine V_if_ne (pc := 28) 37 dX12_times_28 rfl (fun c28 => ?_) (fun c28 => ?_)
    · exact (fun q => absurd (b2i_n0.mp c28) (by rw [q]; decide)) hx
    · refine V_aload_n (pc := 31) (i := 0) dX12_times_31 rfl rfl ?_
      refine V_iconst (pc := 32) (v := 2) dX12_times_32 (by decide) ?_
      refine V_V1i (pc := 33) dX12_times_33 cX12_287 (by first | assumption | rfl) (X12_fail (d := 0) 2 hb) (Nat.le_of_ble_eq_true rfl) (by omega) (Nat.le_of_ble_eq_true rfl) ?_
      exact VE_iret (pc := 36) dX12_times_36 rfl rfl rfl
  · rw [h1i] at c10; exact absurd c10 (by decide)
theorem X12_toBear_bad1 {x1 : Int32} (hx : inR x1 0 60 = false) (hb : gB G ≤ b) (hd : 2 ≤ d) : VM G mX12_toBear d 0 0 [.ref (b + 0), .int x1] (xE (some (.int 0)) (wH G b tbM (up2 (up2 S 0 2 0) 0 2 1) h0)) (wH G b tbM S h0) := by
  refine VM_start (ls := [some (.ref (b + 0)), some (.int x1), none, none, none, none]) rfl ?_
  -- %m X12_toBear
  refine V_aload_n (pc := 0) (i := 0) dX12_toBear_0 rfl rfl ?_
  refine V_iconst (pc := 1) (v := 0) dX12_toBear_1 (by decide) ?_
  refine VW_putI (pc := 2) dX12_toBear_2 fX12_139 ftX12 (fpI rfl rfl (tyX12_ok 2 (by decide))) (by first | assumption | rfl) rfl (by assumption) ?_
  refine V_iload_n (pc := 5) (i := 1) dX12_toBear_5 rfl rfl ?_
  refine V_i2l (pc := 6) dX12_toBear_6 rfl ?_
  refine V_lconst (pc := 7) (v := 0) dX12_toBear_7 (by decide) ?_
  refine V_ldc2 (pc := 8) dX12_toBear_8 lX12_410 ?_
  refine V_S3i (pc := 11) dX12_toBear_11 cX12_142 (X12_isInC (d := 0) _ (l' := 0) (m' := 60) (by decide) (by decide)) (Nat.le_of_ble_eq_true rfl) (by omega) (Nat.le_of_ble_eq_true rfl) ?_
  refine V_if_ne (pc := 14) 23 dX12_toBear_14 rfl (fun c14 => ?_) (fun c14 => ?_)
  · exact (fun q => absurd (b2i_n0.mp c14) (by rw [q]; decide)) hx
  · refine V_aload_n (pc := 17) (i := 0) dX12_toBear_17 rfl rfl ?_
    refine V_iconst (pc := 18) (v := 1) dX12_toBear_18 (by decide) ?_
    refine V_V1i (pc := 19) dX12_toBear_19 cX12_287 (by first | assumption | rfl) (X12_fail (d := 0) 1 hb) (Nat.le_of_ble_eq_true rfl) (by omega) (Nat.le_of_ble_eq_true rfl) ?_
    exact VE_iret (pc := 22) dX12_toBear_22 rfl rfl rfl
theorem X12_toDeny_bad1 {y1 x2 : Int32} (hx : inR x2 0 9 = false) (hb : gB G ≤ b) (hd : 2 ≤ d) : VM G mX12_toDeny d 0 0 [.ref (b + 0), .int y1, .int x2] (xE (some (.int 0)) (wH G b tbM (up2 (up2 S 0 2 0) 0 2 1) h0)) (wH G b tbM S h0) := by
  refine VM_start (ls := [some (.ref (b + 0)), some (.int y1), some (.int x2), none, none, none]) rfl ?_
  -- %m X12_toDeny
  refine V_aload_n (pc := 0) (i := 0) dX12_toDeny_0 rfl rfl ?_
  refine V_iconst (pc := 1) (v := 0) dX12_toDeny_1 (by decide) ?_
  refine VW_putI (pc := 2) dX12_toDeny_2 fX12_139 ftX12 (fpI rfl rfl (tyX12_ok 2 (by decide))) (by first | assumption | rfl) rfl (by assumption) ?_
  refine V_iload_n (pc := 5) (i := 2) dX12_toDeny_5 rfl rfl ?_
  refine V_S1i (pc := 6) dX12_toDeny_6 cX12_378 (X12_isThing (d := 1) _ (by omega)) (Nat.le_of_ble_eq_true rfl) (by omega) (Nat.le_of_ble_eq_true rfl) ?_
  refine V_if_ne (pc := 9) 18 dX12_toDeny_9 rfl (fun c9 => ?_) (fun c9 => ?_)
  · exact (fun q => absurd (b2i_n0.mp c9) (by rw [q]; decide)) hx
  · refine V_aload_n (pc := 12) (i := 0) dX12_toDeny_12 rfl rfl ?_
    refine V_iconst (pc := 13) (v := 1) dX12_toDeny_13 (by decide) ?_
    refine V_V1i (pc := 14) dX12_toDeny_14 cX12_287 (by first | assumption | rfl) (X12_fail (d := 0) 1 hb) (Nat.le_of_ble_eq_true rfl) (by omega) (Nat.le_of_ble_eq_true rfl) ?_
    exact VE_iret (pc := 17) dX12_toDeny_17 rfl rfl rfl
theorem X12_toDeny_bad2 {k2 : Nat} {x1 : Int32} (h2 : 0 ≤ k2 ∧ k2 ≤ 9) (hx : inR x1 0 1023 = false) (hb : gB G ≤ b) (hd : 2 ≤ d) : VM G mX12_toDeny d 0 0 [.ref (b + 0), .int x1, .int (nI k2)] (xE (some (.int 0)) (wH G b tbM (up2 (up2 S 0 2 0) 0 2 2) h0)) (wH G b tbM S h0) := by
  have h2i : inR (nI k2) 0 9 = true := inR_ok (l := 0) (m := 9) (by omega) (by omega) (by decide)
  refine VM_start (ls := [some (.ref (b + 0)), some (.int x1), some (.int (nI k2)), none, none, none]) rfl ?_
  -- %m X12_toDeny
  refine V_aload_n (pc := 0) (i := 0) dX12_toDeny_0 rfl rfl ?_
  refine V_iconst (pc := 1) (v := 0) dX12_toDeny_1 (by decide) ?_
  refine VW_putI (pc := 2) dX12_toDeny_2 fX12_139 ftX12 (fpI rfl rfl (tyX12_ok 2 (by decide))) (by first | assumption | rfl) rfl (by assumption) ?_
  refine V_iload_n (pc := 5) (i := 2) dX12_toDeny_5 rfl rfl ?_
  refine V_S1i (pc := 6) dX12_toDeny_6 cX12_378 (X12_isThing (d := 1) _ (by omega)) (Nat.le_of_ble_eq_true rfl) (by omega) (Nat.le_of_ble_eq_true rfl) ?_
  refine V_if_ne (pc := 9) 18 dX12_toDeny_9 rfl (fun c9 => ?_) (fun c9 => ?_)
  · refine V_iload_n (pc := 18) (i := 1) dX12_toDeny_18 rfl rfl ?_
    refine V_S1i (pc := 19) dX12_toDeny_19 cX12_412 (X12_isSet (d := 1) _ (by omega)) (Nat.le_of_ble_eq_true rfl) (by omega) (Nat.le_of_ble_eq_true rfl) ?_
    refine V_if_ne (pc := 22) 31 dX12_toDeny_22 rfl (fun c22 => ?_) (fun c22 => ?_)
    · exact (fun q => absurd (b2i_n0.mp c22) (by rw [q]; decide)) hx
    · refine V_aload_n (pc := 25) (i := 0) dX12_toDeny_25 rfl rfl ?_
      refine V_iconst (pc := 26) (v := 2) dX12_toDeny_26 (by decide) ?_
      refine V_V1i (pc := 27) dX12_toDeny_27 cX12_287 (by first | assumption | rfl) (X12_fail (d := 0) 2 hb) (Nat.le_of_ble_eq_true rfl) (by omega) (Nat.le_of_ble_eq_true rfl) ?_
      exact VE_iret (pc := 30) dX12_toDeny_30 rfl rfl rfl
  · rw [h2i] at c9; exact absurd c9 (by decide)
theorem X12_toSend_bad1 {x1 : Int32} (hx : inR x1 0 8 = false) (hb : gB G ≤ b) (hd : 2 ≤ d) : VM G mX12_toSend d 0 0 [.ref (b + 0), .int x1] (xE (some (.int 0)) (wH G b tbM (up2 (up2 S 0 2 0) 0 2 1) h0)) (wH G b tbM S h0) := by
  refine VM_start (ls := [some (.ref (b + 0)), some (.int x1), none, none, none, none, none]) rfl ?_
  -- %m X12_toSend
  refine V_aload_n (pc := 0) (i := 0) dX12_toSend_0 rfl rfl ?_
  refine V_iconst (pc := 1) (v := 0) dX12_toSend_1 (by decide) ?_
  refine VW_putI (pc := 2) dX12_toSend_2 fX12_139 ftX12 (fpI rfl rfl (tyX12_ok 2 (by decide))) (by first | assumption | rfl) rfl (by assumption) ?_
  refine V_iload_n (pc := 5) (i := 1) dX12_toSend_5 rfl rfl ?_
  refine V_i2l (pc := 6) dX12_toSend_6 rfl ?_
  refine V_lconst (pc := 7) (v := 0) dX12_toSend_7 (by decide) ?_
  refine V_ldc2 (pc := 8) dX12_toSend_8 lX12_405 ?_
  refine V_S3i (pc := 11) dX12_toSend_11 cX12_142 (X12_isInC (d := 0) _ (l' := 0) (m' := 8) (by decide) (by decide)) (Nat.le_of_ble_eq_true rfl) (by omega) (Nat.le_of_ble_eq_true rfl) ?_
  refine V_if_ne (pc := 14) 23 dX12_toSend_14 rfl (fun c14 => ?_) (fun c14 => ?_)
  · exact (fun q => absurd (b2i_n0.mp c14) (by rw [q]; decide)) hx
  · refine V_aload_n (pc := 17) (i := 0) dX12_toSend_17 rfl rfl ?_
    refine V_iconst (pc := 18) (v := 1) dX12_toSend_18 (by decide) ?_
    refine V_V1i (pc := 19) dX12_toSend_19 cX12_287 (by first | assumption | rfl) (X12_fail (d := 0) 1 hb) (Nat.le_of_ble_eq_true rfl) (by omega) (Nat.le_of_ble_eq_true rfl) ?_
    exact VE_iret (pc := 22) dX12_toSend_22 rfl rfl rfl
theorem X12_waiting_bad1 {pp : Nat} (hp : S 3 0 = nI pp) (h8 : pp ≤ 8) {x1 y2 : Int32} (hx : inR x1 0 (nI pp - 1) = false) (hb : gB G ≤ b) (hd : 2 ≤ d) : VM G mX12_waiting d 0 0 [.ref (b + 0), .int x1, .int y2] (xE (some (.int 0)) (wH G b tbM (up2 (up2 S 0 2 0) 0 2 1) h0)) (wH G b tbM S h0) := by
  refine VM_start (ls := [some (.ref (b + 0)), some (.int x1), some (.int y2), none, none]) rfl ?_
  -- %m X12_waiting
  refine V_aload_n (pc := 0) (i := 0) dX12_waiting_0 rfl rfl ?_
  refine V_iconst (pc := 1) (v := 0) dX12_waiting_1 (by decide) ?_
  refine VW_putI (pc := 2) dX12_waiting_2 fX12_139 ftX12 (fpI rfl rfl (tyX12_ok 2 (by decide))) (by first | assumption | rfl) rfl (by assumption) ?_
  refine V_aload_n (pc := 5) (i := 0) dX12_waiting_5 rfl rfl ?_
  refine V_iload_n (pc := 6) (i := 1) dX12_waiting_6 rfl rfl ?_
  refine V_V1i (pc := 7) dX12_waiting_7 cX12_384 (by first | assumption | rfl) (X12_isPerson (d := 1) _ (by omega)) (Nat.le_of_ble_eq_true rfl) (by omega) (Nat.le_of_ble_eq_true rfl) ?_
  rw [up2_row (by decide), hp]
  refine V_if_ne (pc := 10) 19 dX12_waiting_10 rfl (fun c10 => ?_) (fun c10 => ?_)
  · exact (fun q => absurd (b2i_n0.mp c10) (by rw [q]; decide)) hx
  · refine V_aload_n (pc := 13) (i := 0) dX12_waiting_13 rfl rfl ?_
    refine V_iconst (pc := 14) (v := 1) dX12_waiting_14 (by decide) ?_
    refine V_V1i (pc := 15) dX12_waiting_15 cX12_287 (by first | assumption | rfl) (X12_fail (d := 0) 1 hb) (Nat.le_of_ble_eq_true rfl) (by omega) (Nat.le_of_ble_eq_true rfl) ?_
    exact VE_iret (pc := 18) dX12_waiting_18 rfl rfl rfl
theorem X12_waiting_bad2 {k1 : Nat} {pp : Nat} (hp : S 3 0 = nI pp) (h8 : pp ≤ 8) {x2 : Int32} (h1 : k1 < pp) (hx : inR x2 0 60 = false) (hb : gB G ≤ b) (hd : 2 ≤ d) : VM G mX12_waiting d 0 0 [.ref (b + 0), .int (nI k1), .int x2] (xE (some (.int 0)) (wH G b tbM (up2 (up2 S 0 2 0) 0 2 2) h0)) (wH G b tbM S h0) := by
  have h1i : inR (nI k1) 0 (nI pp - 1) = true := inR_pp (by omega) (by omega)
  refine VM_start (ls := [some (.ref (b + 0)), some (.int (nI k1)), some (.int x2), none, none]) rfl ?_
  -- %m X12_waiting
  refine V_aload_n (pc := 0) (i := 0) dX12_waiting_0 rfl rfl ?_
  refine V_iconst (pc := 1) (v := 0) dX12_waiting_1 (by decide) ?_
  refine VW_putI (pc := 2) dX12_waiting_2 fX12_139 ftX12 (fpI rfl rfl (tyX12_ok 2 (by decide))) (by first | assumption | rfl) rfl (by assumption) ?_
  refine V_aload_n (pc := 5) (i := 0) dX12_waiting_5 rfl rfl ?_
  refine V_iload_n (pc := 6) (i := 1) dX12_waiting_6 rfl rfl ?_
  refine V_V1i (pc := 7) dX12_waiting_7 cX12_384 (by first | assumption | rfl) (X12_isPerson (d := 1) _ (by omega)) (Nat.le_of_ble_eq_true rfl) (by omega) (Nat.le_of_ble_eq_true rfl) ?_
  rw [up2_row (by decide), hp]
  refine V_if_ne (pc := 10) 19 dX12_waiting_10 rfl (fun c10 => ?_) (fun c10 => ?_)
  · refine V_iload_n (pc := 19) (i := 2) dX12_waiting_19 rfl rfl ?_
    refine V_i2l (pc := 20) dX12_waiting_20 rfl ?_
    refine V_lconst (pc := 21) (v := 0) dX12_waiting_21 (by decide) ?_
    refine V_ldc2 (pc := 22) dX12_waiting_22 lX12_410 ?_
    refine V_S3i (pc := 25) dX12_waiting_25 cX12_142 (X12_isInC (d := 0) _ (l' := 0) (m' := 60) (by decide) (by decide)) (Nat.le_of_ble_eq_true rfl) (by omega) (Nat.le_of_ble_eq_true rfl) ?_
    refine V_if_ne (pc := 28) 37 dX12_waiting_28 rfl (fun c28 => ?_) (fun c28 => ?_)
    · exact (fun q => absurd (b2i_n0.mp c28) (by rw [q]; decide)) hx
    · refine V_aload_n (pc := 31) (i := 0) dX12_waiting_31 rfl rfl ?_
      refine V_iconst (pc := 32) (v := 2) dX12_waiting_32 (by decide) ?_
      refine V_V1i (pc := 33) dX12_waiting_33 cX12_287 (by first | assumption | rfl) (X12_fail (d := 0) 2 hb) (Nat.le_of_ble_eq_true rfl) (by omega) (Nat.le_of_ble_eq_true rfl) ?_
      exact VE_iret (pc := 36) dX12_waiting_36 rfl rfl rfl
  · rw [h1i] at c10; exact absurd c10 (by decide)
theorem X12_why_bad1 {y1 x2 : Int32} (hx : inR x2 0 9 = false) (hb : gB G ≤ b) (hd : 2 ≤ d) : VM G mX12_why d 0 0 [.ref (b + 0), .int y1, .int x2] (xE (some (.int 0)) (wH G b tbM (up2 (up2 S 0 2 0) 0 2 1) h0)) (wH G b tbM S h0) := by
  refine VM_start (ls := [some (.ref (b + 0)), some (.int y1), some (.int x2), none, none, none, none, none]) rfl ?_
  -- %m X12_why
  refine V_aload_n (pc := 0) (i := 0) dX12_why_0 rfl rfl ?_
  refine V_iconst (pc := 1) (v := 0) dX12_why_1 (by decide) ?_
  refine VW_putI (pc := 2) dX12_why_2 fX12_139 ftX12 (fpI rfl rfl (tyX12_ok 2 (by decide))) (by first | assumption | rfl) rfl (by assumption) ?_
  refine V_iload_n (pc := 5) (i := 2) dX12_why_5 rfl rfl ?_
  refine V_S1i (pc := 6) dX12_why_6 cX12_378 (X12_isThing (d := 1) _ (by omega)) (Nat.le_of_ble_eq_true rfl) (by omega) (Nat.le_of_ble_eq_true rfl) ?_
  refine V_if_ne (pc := 9) 18 dX12_why_9 rfl (fun c9 => ?_) (fun c9 => ?_)
  · exact (fun q => absurd (b2i_n0.mp c9) (by rw [q]; decide)) hx
  · refine V_aload_n (pc := 12) (i := 0) dX12_why_12 rfl rfl ?_
    refine V_iconst (pc := 13) (v := 1) dX12_why_13 (by decide) ?_
    refine V_V1i (pc := 14) dX12_why_14 cX12_287 (by first | assumption | rfl) (X12_fail (d := 0) 1 hb) (Nat.le_of_ble_eq_true rfl) (by omega) (Nat.le_of_ble_eq_true rfl) ?_
    exact VE_iret (pc := 17) dX12_why_17 rfl rfl rfl
theorem X12_why_bad2 {k2 : Nat} {x1 : Int32} (h2 : 0 ≤ k2 ∧ k2 ≤ 9) (hx : inR x1 0 1023 = false) (hb : gB G ≤ b) (hd : 2 ≤ d) : VM G mX12_why d 0 0 [.ref (b + 0), .int x1, .int (nI k2)] (xE (some (.int 0)) (wH G b tbM (up2 (up2 S 0 2 0) 0 2 2) h0)) (wH G b tbM S h0) := by
  have h2i : inR (nI k2) 0 9 = true := inR_ok (l := 0) (m := 9) (by omega) (by omega) (by decide)
  refine VM_start (ls := [some (.ref (b + 0)), some (.int x1), some (.int (nI k2)), none, none, none, none, none]) rfl ?_
  -- %m X12_why
  refine V_aload_n (pc := 0) (i := 0) dX12_why_0 rfl rfl ?_
  refine V_iconst (pc := 1) (v := 0) dX12_why_1 (by decide) ?_
  refine VW_putI (pc := 2) dX12_why_2 fX12_139 ftX12 (fpI rfl rfl (tyX12_ok 2 (by decide))) (by first | assumption | rfl) rfl (by assumption) ?_
  refine V_iload_n (pc := 5) (i := 2) dX12_why_5 rfl rfl ?_
  refine V_S1i (pc := 6) dX12_why_6 cX12_378 (X12_isThing (d := 1) _ (by omega)) (Nat.le_of_ble_eq_true rfl) (by omega) (Nat.le_of_ble_eq_true rfl) ?_
  refine V_if_ne (pc := 9) 18 dX12_why_9 rfl (fun c9 => ?_) (fun c9 => ?_)
  · refine V_iload_n (pc := 18) (i := 1) dX12_why_18 rfl rfl ?_
    refine V_S1i (pc := 19) dX12_why_19 cX12_412 (X12_isSet (d := 1) _ (by omega)) (Nat.le_of_ble_eq_true rfl) (by omega) (Nat.le_of_ble_eq_true rfl) ?_
    refine V_if_ne (pc := 22) 31 dX12_why_22 rfl (fun c22 => ?_) (fun c22 => ?_)
    · exact (fun q => absurd (b2i_n0.mp c22) (by rw [q]; decide)) hx
    · refine V_aload_n (pc := 25) (i := 0) dX12_why_25 rfl rfl ?_
      refine V_iconst (pc := 26) (v := 2) dX12_why_26 (by decide) ?_
      refine V_V1i (pc := 27) dX12_why_27 cX12_287 (by first | assumption | rfl) (X12_fail (d := 0) 2 hb) (Nat.le_of_ble_eq_true rfl) (by omega) (Nat.le_of_ble_eq_true rfl) ?_
      exact VE_iret (pc := 30) dX12_why_30 rfl rfl rfl
  · rw [h2i] at c9; exact absurd c9 (by decide)
theorem X12_worth_bad1 {x1 : Int32} (hx : inR x1 0 9 = false) (hb : gB G ≤ b) (hd : 2 ≤ d) : VM G mX12_worth d 0 0 [.ref (b + 0), .int x1] (xE (some (.int 0)) (wH G b tbM (up2 (up2 S 0 2 0) 0 2 1) h0)) (wH G b tbM S h0) := by
  refine VM_start (ls := [some (.ref (b + 0)), some (.int x1)]) rfl ?_
  -- %m X12_worth
  refine V_aload_n (pc := 0) (i := 0) dX12_worth_0 rfl rfl ?_
  refine V_iconst (pc := 1) (v := 0) dX12_worth_1 (by decide) ?_
  refine VW_putI (pc := 2) dX12_worth_2 fX12_139 ftX12 (fpI rfl rfl (tyX12_ok 2 (by decide))) (by first | assumption | rfl) rfl (by assumption) ?_
  refine V_iload_n (pc := 5) (i := 1) dX12_worth_5 rfl rfl ?_
  refine V_S1i (pc := 6) dX12_worth_6 cX12_378 (X12_isThing (d := 1) _ (by omega)) (Nat.le_of_ble_eq_true rfl) (by omega) (Nat.le_of_ble_eq_true rfl) ?_
  refine V_if_eq (pc := 9) 21 dX12_worth_9 rfl (fun c9 => ?_) (fun c9 => ?_)
  · refine V_aload_n (pc := 21) (i := 0) dX12_worth_21 rfl rfl ?_
    refine V_iconst (pc := 22) (v := 1) dX12_worth_22 (by decide) ?_
    refine V_V1i (pc := 23) dX12_worth_23 cX12_287 (by first | assumption | rfl) (X12_fail (d := 0) 1 hb) (Nat.le_of_ble_eq_true rfl) (by omega) (Nat.le_of_ble_eq_true rfl) ?_
    exact VE_iret (pc := 26) dX12_worth_26 rfl rfl rfl
  · exact (fun q => absurd (b2i_n0.mp c9) (by rw [q]; decide)) hx
theorem X12_years_bad1 {y1 y2 x3 : Int32} (hx : inR x3 0 2 = false) (hb : gB G ≤ b) (hd : 2 ≤ d) : VM G mX12_years d 0 0 [.ref (b + 0), .int y1, .int y2, .int x3] (xE (some (.int 0)) (wH G b tbM (up2 (up2 S 0 2 0) 0 2 1) h0)) (wH G b tbM S h0) := by
  refine VM_start (ls := [some (.ref (b + 0)), some (.int y1), some (.int y2), some (.int x3), none, none, none]) rfl ?_
  -- %m X12_years
  refine V_aload_n (pc := 0) (i := 0) dX12_years_0 rfl rfl ?_
  refine V_iconst (pc := 1) (v := 0) dX12_years_1 (by decide) ?_
  refine VW_putI (pc := 2) dX12_years_2 fX12_139 ftX12 (fpI rfl rfl (tyX12_ok 2 (by decide))) (by first | assumption | rfl) rfl (by assumption) ?_
  refine V_iload_n (pc := 5) (i := 3) dX12_years_5 rfl rfl ?_
  refine V_i2l (pc := 6) dX12_years_6 rfl ?_
  refine V_lconst (pc := 7) (v := 0) dX12_years_7 (by decide) ?_
  refine V_ldc2 (pc := 8) dX12_years_8 lX12_418 ?_
  refine V_S3i (pc := 11) dX12_years_11 cX12_142 (X12_isInC (d := 0) _ (l' := 0) (m' := 2) (by decide) (by decide)) (Nat.le_of_ble_eq_true rfl) (by omega) (Nat.le_of_ble_eq_true rfl) ?_
  refine V_if_ne (pc := 14) 23 dX12_years_14 rfl (fun c14 => ?_) (fun c14 => ?_)
  · exact (fun q => absurd (b2i_n0.mp c14) (by rw [q]; decide)) hx
  · refine V_aload_n (pc := 17) (i := 0) dX12_years_17 rfl rfl ?_
    refine V_iconst (pc := 18) (v := 1) dX12_years_18 (by decide) ?_
    refine V_V1i (pc := 19) dX12_years_19 cX12_287 (by first | assumption | rfl) (X12_fail (d := 0) 1 hb) (Nat.le_of_ble_eq_true rfl) (by omega) (Nat.le_of_ble_eq_true rfl) ?_
    exact VE_iret (pc := 22) dX12_years_22 rfl rfl rfl
theorem X12_years_bad2 {k3 : Nat} {y1 x2 : Int32} (h3 : 0 ≤ k3 ∧ k3 ≤ 2) (hx : inR x2 0 60 = false) (hb : gB G ≤ b) (hd : 2 ≤ d) : VM G mX12_years d 0 0 [.ref (b + 0), .int y1, .int x2, .int (nI k3)] (xE (some (.int 0)) (wH G b tbM (up2 (up2 S 0 2 0) 0 2 2) h0)) (wH G b tbM S h0) := by
  have h3i : inR (nI k3) 0 2 = true := inR_ok (l := 0) (m := 2) (by omega) (by omega) (by decide)
  refine VM_start (ls := [some (.ref (b + 0)), some (.int y1), some (.int x2), some (.int (nI k3)), none, none, none]) rfl ?_
  -- %m X12_years
  refine V_aload_n (pc := 0) (i := 0) dX12_years_0 rfl rfl ?_
  refine V_iconst (pc := 1) (v := 0) dX12_years_1 (by decide) ?_
  refine VW_putI (pc := 2) dX12_years_2 fX12_139 ftX12 (fpI rfl rfl (tyX12_ok 2 (by decide))) (by first | assumption | rfl) rfl (by assumption) ?_
  refine V_iload_n (pc := 5) (i := 3) dX12_years_5 rfl rfl ?_
  refine V_i2l (pc := 6) dX12_years_6 rfl ?_
  refine V_lconst (pc := 7) (v := 0) dX12_years_7 (by decide) ?_
  refine V_ldc2 (pc := 8) dX12_years_8 lX12_418 ?_
  refine V_S3i (pc := 11) dX12_years_11 cX12_142 (X12_isInC (d := 0) _ (l' := 0) (m' := 2) (by decide) (by decide)) (Nat.le_of_ble_eq_true rfl) (by omega) (Nat.le_of_ble_eq_true rfl) ?_
  refine V_if_ne (pc := 14) 23 dX12_years_14 rfl (fun c14 => ?_) (fun c14 => ?_)
  · refine V_iload_n (pc := 23) (i := 2) dX12_years_23 rfl rfl ?_
    refine V_i2l (pc := 24) dX12_years_24 rfl ?_
    refine V_lconst (pc := 25) (v := 0) dX12_years_25 (by decide) ?_
    refine V_ldc2 (pc := 26) dX12_years_26 lX12_410 ?_
    refine V_S3i (pc := 29) dX12_years_29 cX12_142 (X12_isInC (d := 0) _ (l' := 0) (m' := 60) (by decide) (by decide)) (Nat.le_of_ble_eq_true rfl) (by omega) (Nat.le_of_ble_eq_true rfl) ?_
    refine V_if_ne (pc := 32) 41 dX12_years_32 rfl (fun c32 => ?_) (fun c32 => ?_)
    · exact (fun q => absurd (b2i_n0.mp c32) (by rw [q]; decide)) hx
    · refine V_aload_n (pc := 35) (i := 0) dX12_years_35 rfl rfl ?_
      refine V_iconst (pc := 36) (v := 2) dX12_years_36 (by decide) ?_
      refine V_V1i (pc := 37) dX12_years_37 cX12_287 (by first | assumption | rfl) (X12_fail (d := 0) 2 hb) (Nat.le_of_ble_eq_true rfl) (by omega) (Nat.le_of_ble_eq_true rfl) ?_
      exact VE_iret (pc := 40) dX12_years_40 rfl rfl rfl
  · rw [h3i] at c14; exact absurd c14 (by decide)
end MB
