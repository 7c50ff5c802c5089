/-! ===== the model: the image, what is fed, why ===== -/
section M13
variable {G : xG} {d : Nat} {b : Nat} {S T U : Nat → Nat → Int32} {h0 h : xH}
def cpR (T : Nat → Nat → Int32) (k o N : Nat) : Nat → Nat → Int32 := upR T k (cpL (T o) N 0 (T k))
def im1 (T : Nat → Nat → Int32) : Nat → Nat → Int32 := up2 (up2 (up2 T 0 48 1) 0 49 (T 0 36)) 0 50 (T 0 37)
def im2 (T : Nat → Nat → Int32) : Nat → Nat → Int32 := upR T 29 (pkR T 0 (T 29))
def mImg (T : Nat → Nat → Int32) : Nat → Nat → Int32 := cpR (cpR (cpR (cpR (cpR (im2 (im1 T)) 30 20 1440) 31 26 8) 32 27 8) 34 28 8) 33 14 3
theorem nar_01 {x : Int32} (h : x = 0 ∨ x = 1) : vp_nar .boolean x = x := by rcases h with q | q <;> subst q <;> decide
theorem cpR_off {k o N k' : Nat} (h : k' ≠ k) : cpR T k o N k' = T k' := upR_row h
theorem X12_image (hz : ∀ k, k < 8 → S 28 k = 0 ∨ S 28 k = 1) (hb : gB G ≤ b) (hd : 2 ≤ d) : VM G mX12_image d 0 0 [.ref (b + 0)] (xE none (wH G b tbM (mImg (up2 S 0 2 0)) h0)) (wH G b tbM S h0) := by
  have hzT : ∀ k, k < 8 → up2 S 0 2 0 28 k = 0 ∨ up2 S 0 2 0 28 k = 1 := fun k hk => by rw [up2_row (by decide)]; exact hz k hk
  refine VM_start (ls := [some (.ref (b + 0)), none]) rfl ?_
  unfold mImg
  -- %m X12_image
  refine V_aload_n (pc := 0) (i := 0) dX12_image_0 rfl rfl ?_
  refine V_iconst (pc := 1) (v := 0) dX12_image_1 (by decide) ?_
  refine VW_putI (pc := 2) dX12_image_2 fX12_139 ftX12 (fpI rfl rfl (tyX12_ok 2 (by decide))) (by first | assumption | rfl) rfl (by assumption) ?_
  generalize up2 S 0 2 0 = T at hzT ⊢
  refine V_aload_n (pc := 5) (i := 0) dX12_image_5 rfl rfl ?_
  refine V_iconst (pc := 6) (v := 1) dX12_image_6 (by decide) ?_
  refine VW_putI (pc := 7) dX12_image_7 fX12_313 ftX12 (fpZ rfl rfl (tyX12_ok 48 (by decide)) (by first | exact Or.inl rfl | exact Or.inr rfl)) (by first | assumption | rfl) rfl (by assumption) ?_
  refine V_aload_n (pc := 10) (i := 0) dX12_image_10 rfl rfl ?_
  refine V_aload_n (pc := 11) (i := 0) dX12_image_11 rfl rfl ?_
  refine VW_getI (pc := 12) dX12_image_12 fX12_307 (by first | assumption | rfl) rfl ?_
  rw [up2_col (by decide)]
  refine VW_putI (pc := 15) dX12_image_15 fX12_443 ftX12 (fpI rfl rfl (tyX12_ok 49 (by decide))) (by first | assumption | rfl) rfl (by assumption) ?_
  refine V_aload_n (pc := 18) (i := 0) dX12_image_18 rfl rfl ?_
  refine V_aload_n (pc := 19) (i := 0) dX12_image_19 rfl rfl ?_
  refine VW_getI (pc := 20) dX12_image_20 fX12_310 (by first | assumption | rfl) rfl ?_
  rw [up2_col (by decide), up2_col (by decide)]
  refine VW_putI (pc := 23) dX12_image_23 fX12_446 ftX12 (fpI rfl rfl (tyX12_ok 50 (by decide))) (by first | assumption | rfl) rfl (by assumption) ?_
  show V G mX12_image d 0 0 _ 26 _ _ (wH G b tbM (im1 T) h0)
  refine V_aload_n (pc := 26) (i := 0) dX12_image_26 rfl rfl ?_
  refine V_aload_n (pc := 27) (i := 0) dX12_image_27 rfl rfl ?_
  refine VW_getR (pc := 28) dX12_image_28 fX12_118 (by first | assumption | rfl) rfl ?_
  refine V_iconst (pc := 31) (v := 0) dX12_image_31 (by decide) ?_
  refine V_V2v (pc := 32) dX12_image_32 cX12_387 (by first | assumption | rfl) (X12_pack (d := 0) (r := 29) (N := 36) (a := 0) rfl (by decide) (by decide) (by decide) hb) (Nat.le_of_ble_eq_true rfl) (by omega) (Nat.le_of_ble_eq_true rfl) ?_
  show V G mX12_image d 0 0 _ 35 _ _ (wH G b tbM (im2 (im1 T)) h0)
  have e28 : im2 (im1 T) 28 = T 28 := by unfold im2 im1; rw [upR_row (by decide), up2_row (by decide), up2_row (by decide), up2_row (by decide)]
  generalize im2 (im1 T) = U at e28 ⊢
  refine V_aload_n (pc := 35) (i := 0) dX12_image_35 rfl rfl ?_
  refine VW_getR (pc := 36) dX12_image_36 fX12_121 (by first | assumption | rfl) rfl ?_
  refine V_aload_n (pc := 39) (i := 0) dX12_image_39 rfl rfl ?_
  refine VW_getR (pc := 40) dX12_image_40 fX12_90 (by first | assumption | rfl) rfl ?_
  refine V_S2v (pc := 43) dX12_image_43 cX12_449 (X12_copyTo (d := 0) (k := 30) (o := 20) (N := 1440) rfl rfl (by decide) (by decide) hb) (Nat.le_of_ble_eq_true rfl) (by omega) (Nat.le_of_ble_eq_true rfl) ?_
  show V G mX12_image d 0 0 _ 46 _ _ (wH G b tbM (cpR U 30 20 1440) h0)
  refine V_aload_n (pc := 46) (i := 0) dX12_image_46 rfl rfl ?_
  refine VW_getR (pc := 47) dX12_image_47 fX12_124 (by first | assumption | rfl) rfl ?_
  refine V_aload_n (pc := 50) (i := 0) dX12_image_50 rfl rfl ?_
  refine VW_getR (pc := 51) dX12_image_51 fX12_108 (by first | assumption | rfl) rfl ?_
  refine V_S2v (pc := 54) dX12_image_54 cX12_449 (X12_copyTo (d := 0) (k := 31) (o := 26) (N := 8) rfl rfl (by decide) (by decide) hb) (Nat.le_of_ble_eq_true rfl) (by omega) (Nat.le_of_ble_eq_true rfl) ?_
  show V G mX12_image d 0 0 _ 57 _ _ (wH G b tbM (cpR (cpR U 30 20 1440) 31 26 8) h0)
  refine V_aload_n (pc := 57) (i := 0) dX12_image_57 rfl rfl ?_
  refine VW_getR (pc := 58) dX12_image_58 fX12_127 (by first | assumption | rfl) rfl ?_
  refine V_aload_n (pc := 61) (i := 0) dX12_image_61 rfl rfl ?_
  refine VW_getR (pc := 62) dX12_image_62 fX12_111 (by first | assumption | rfl) rfl ?_
  refine V_S2v (pc := 65) dX12_image_65 cX12_449 (X12_copyTo (d := 0) (k := 32) (o := 27) (N := 8) rfl rfl (by decide) (by decide) hb) (Nat.le_of_ble_eq_true rfl) (by omega) (Nat.le_of_ble_eq_true rfl) ?_
  show V G mX12_image d 0 0 _ 68 _ _ (wH G b tbM (cpR (cpR (cpR U 30 20 1440) 31 26 8) 32 27 8) h0)
  have e28' : cpR (cpR (cpR U 30 20 1440) 31 26 8) 32 27 8 28 = T 28 := by rw [cpR_off (by decide), cpR_off (by decide), cpR_off (by decide)]; exact e28
  generalize cpR (cpR (cpR U 30 20 1440) 31 26 8) 32 27 8 = W at e28' ⊢
  refine V_iconst (pc := 68) (v := 0) dX12_image_68 (by decide) ?_
  refine V_istore_n (pc := 69) (i := 1) dX12_image_69 rfl (by decide) rfl ?_
  have loop : ∀ (m i : Nat) (f : Nat → Int32), m + i = 8 → V G mX12_image d 0 0 (xE none (wH G b tbM (cpR (upR W 34 (cpL (W 28) m i f)) 33 14 3) h0)) 70 [some (.ref (b + 0)), some (.int (nI i))] [] (wH G b tbM (upR W 34 f) h0) := by
    intro m
    induction m with
    | zero =>
      intro i f hm
      refine V_iload_n (pc := 70) (i := 1) dX12_image_70 rfl rfl ?_
      refine V_bipush (pc := 71) (v := 8) dX12_image_71 (by decide) ?_
      refine V_icmp_ge (pc := 73) 94 dX12_image_73 rfl (fun c73 => ?_) (fun c73 => ?_)
      · refine V_aload_n (pc := 94) (i := 0) dX12_image_94 rfl rfl ?_
        refine VW_getR (pc := 95) dX12_image_95 fX12_130 (by first | assumption | rfl) rfl ?_
        refine V_aload_n (pc := 98) (i := 0) dX12_image_98 rfl rfl ?_
        refine VW_getR (pc := 99) dX12_image_99 fX12_70 (by first | assumption | rfl) rfl ?_
        refine V_S2v (pc := 102) dX12_image_102 cX12_449 (X12_copyTo (d := 0) (k := 33) (o := 14) (N := 3) rfl rfl (by decide) (by decide) hb) (Nat.le_of_ble_eq_true rfl) (by omega) (Nat.le_of_ble_eq_true rfl) ?_
        exact VE_vret (pc := 105) dX12_image_105 rfl rfl
      · exact absurd (by rw [show i = 8 by omega]; decide) c73
    | succ m ih =>
      intro i f hm
      rw [cpL]
      refine V_iload_n (pc := 70) (i := 1) dX12_image_70 rfl rfl ?_
      refine V_bipush (pc := 71) (v := 8) dX12_image_71 (by decide) ?_
      refine V_icmp_ge (pc := 73) 94 dX12_image_73 rfl (fun c73 => ?_) (fun c73 => ?_)
      · exact absurd c73 (nI_ge (b := 8) (by omega) (by decide))
      · refine V_aload_n (pc := 76) (i := 0) dX12_image_76 rfl rfl ?_
        refine VW_getR (pc := 77) dX12_image_77 fX12_133 (by first | assumption | rfl) rfl ?_
        refine V_iload_n (pc := 80) (i := 1) dX12_image_80 rfl rfl ?_
        refine V_aload_n (pc := 81) (i := 0) dX12_image_81 rfl rfl ?_
        refine VW_getR (pc := 82) dX12_image_82 fX12_114 (by first | assumption | rfl) rfl ?_
        refine V_iload_n (pc := 85) (i := 1) dX12_image_85 rfl rfl ?_
        refine VW_zald (pc := 86) dX12_image_86 (by first | assumption | rfl) (vp_in_nI (by omega) (by decide)) ?_
        rw [nI_clamp (by omega), upR_row (by decide)]
        refine VW_zast (pc := 87) dX12_image_87 (by first | assumption | rfl) (by assumption) (vp_in_nI (by omega) (by decide)) ?_
        rw [nI_clamp (by omega), up2_upR, nar_01 (by rw [e28']; exact hzT i (by omega))]
        refine V_iinc (pc := 88) dX12_image_88 (by decide) rfl rfl (iincN (n := 1) (by decide)) ?_
        refine V_goto (pc := 91) 70 dX12_image_91 rfl ?_
        exact ih (i + 1) _ (by omega)
  rw [show wH G b tbM W h0 = wH G b tbM (upR W 34 (W 34)) h0 by rw [upR_self]]
  exact loop 8 0 _ rfl
def rs1 (T : Nat → Nat → Int32) : Nat → Nat → Int32 := up2 (up2 T 0 36 (T 0 49)) 0 37 (T 0 50)
def rs2 (T : Nat → Nat → Int32) : Nat → Nat → Int32 := unR (T 29) 0 T
def mRst (T : Nat → Nat → Int32) : Nat → Nat → Int32 := cpR (cpR (cpR (cpR (cpR (rs2 (rs1 T)) 20 30 1440) 26 31 8) 27 32 8) 28 34 8) 14 33 3
theorem X12_restore_no (hi : S 0 48 = 0) (hb : gB G ≤ b) (hd : 2 ≤ d) : VM G mX12_restore d 0 0 [.ref (b + 0)] (xE (some (.int 0)) (wH G b tbM (up2 S 0 2 0) h0)) (wH G b tbM S h0) := by
  refine VM_start (ls := [some (.ref (b + 0)), none]) rfl ?_
  -- %m X12_restore
  refine V_aload_n (pc := 0) (i := 0) dX12_restore_0 rfl rfl ?_
  refine V_iconst (pc := 1) (v := 0) dX12_restore_1 (by decide) ?_
  refine VW_putI (pc := 2) dX12_restore_2 fX12_139 ftX12 (fpI rfl rfl (tyX12_ok 2 (by decide))) (by first | assumption | rfl) rfl (by assumption) ?_
  refine V_aload_n (pc := 5) (i := 0) dX12_restore_5 rfl rfl ?_
  refine VW_getI (pc := 6) dX12_restore_6 fX12_313 (by first | assumption | rfl) rfl ?_
  rw [up2_col (by decide)]
  refine V_if_ne (pc := 9) 14 dX12_restore_9 rfl (fun c9 => ?_) (fun c9 => ?_)
  · exact absurd hi c9
  · refine V_iconst (pc := 12) (v := 0) dX12_restore_12 (by decide) ?_
    exact VE_zret (pc := 13) dX12_restore_13 rfl (Or.inl rfl) rfl rfl
theorem X12_restore_ok (hi : ¬ S 0 48 = 0) (hz : ∀ k, k < 8 → S 34 k = 0 ∨ S 34 k = 1) (hb : gB G ≤ b) (hd : 2 ≤ d) : VM G mX12_restore d 0 0 [.ref (b + 0)] (xE (some (.int 1)) (wH G b tbM (mRst (up2 S 0 2 0)) h0)) (wH G b tbM S h0) := by
  have hzT : ∀ k, k < 8 → up2 S 0 2 0 34 k = 0 ∨ up2 S 0 2 0 34 k = 1 := fun k hk => by rw [up2_row (by decide)]; exact hz k hk
  have hiT : ¬ up2 S 0 2 0 0 48 = 0 := by rw [up2_col (by decide)]; exact hi
  refine VM_start (ls := [some (.ref (b + 0)), none]) rfl ?_
  unfold mRst
  -- %m X12_restore
  refine V_aload_n (pc := 0) (i := 0) dX12_restore_0 rfl rfl ?_
  refine V_iconst (pc := 1) (v := 0) dX12_restore_1 (by decide) ?_
  refine VW_putI (pc := 2) dX12_restore_2 fX12_139 ftX12 (fpI rfl rfl (tyX12_ok 2 (by decide))) (by first | assumption | rfl) rfl (by assumption) ?_
  generalize up2 S 0 2 0 = T at hzT hiT ⊢
  refine V_aload_n (pc := 5) (i := 0) dX12_restore_5 rfl rfl ?_
  refine VW_getI (pc := 6) dX12_restore_6 fX12_313 (by first | assumption | rfl) rfl ?_
  refine V_if_ne (pc := 9) 14 dX12_restore_9 rfl (fun _ => ?_) (fun c => absurd c hiT)
  refine V_aload_n (pc := 14) (i := 0) dX12_restore_14 rfl rfl ?_
  refine V_aload_n (pc := 15) (i := 0) dX12_restore_15 rfl rfl ?_
  refine VW_getI (pc := 16) dX12_restore_16 fX12_443 (by first | assumption | rfl) rfl ?_
  refine VW_putI (pc := 19) dX12_restore_19 fX12_307 ftX12 (fpI rfl rfl (tyX12_ok 36 (by decide))) (by first | assumption | rfl) rfl (by assumption) ?_
  refine V_aload_n (pc := 22) (i := 0) dX12_restore_22 rfl rfl ?_
  refine V_aload_n (pc := 23) (i := 0) dX12_restore_23 rfl rfl ?_
  refine VW_getI (pc := 24) dX12_restore_24 fX12_446 (by first | assumption | rfl) rfl ?_
  rw [up2_col (by decide)]
  refine VW_putI (pc := 27) dX12_restore_27 fX12_310 ftX12 (fpI rfl rfl (tyX12_ok 37 (by decide))) (by first | assumption | rfl) rfl (by assumption) ?_
  show V G mX12_restore d 0 0 _ 30 _ _ (wH G b tbM (rs1 T) h0)
  refine V_aload_n (pc := 30) (i := 0) dX12_restore_30 rfl rfl ?_
  refine V_aload_n (pc := 31) (i := 0) dX12_restore_31 rfl rfl ?_
  refine VW_getR (pc := 32) dX12_restore_32 fX12_118 (by first | assumption | rfl) rfl ?_
  refine V_iconst (pc := 35) (v := 0) dX12_restore_35 (by decide) ?_
  refine V_V2v (pc := 36) dX12_restore_36 cX12_407 (by first | assumption | rfl) (X12_unpack (d := 0) (r := 29) (N := 36) (a := 0) rfl (by decide) (by decide) (by decide) hb) (Nat.le_of_ble_eq_true rfl) (by omega) (Nat.le_of_ble_eq_true rfl) ?_
  show V G mX12_restore d 0 0 _ 39 _ _ (wH G b tbM (rs2 (rs1 T)) h0)
  have e34 : rs2 (rs1 T) 34 = T 34 := by unfold rs2 rs1; rw [unR_off (by decide) (by decide), up2_row (by decide), up2_row (by decide)]
  generalize rs2 (rs1 T) = U at e34 ⊢
  refine V_aload_n (pc := 39) (i := 0) dX12_restore_39 rfl rfl ?_
  refine VW_getR (pc := 40) dX12_restore_40 fX12_90 (by first | assumption | rfl) rfl ?_
  refine V_aload_n (pc := 43) (i := 0) dX12_restore_43 rfl rfl ?_
  refine VW_getR (pc := 44) dX12_restore_44 fX12_121 (by first | assumption | rfl) rfl ?_
  refine V_S2v (pc := 47) dX12_restore_47 cX12_449 (X12_copyTo (d := 0) (k := 20) (o := 30) (N := 1440) rfl rfl (by decide) (by decide) hb) (Nat.le_of_ble_eq_true rfl) (by omega) (Nat.le_of_ble_eq_true rfl) ?_
  show V G mX12_restore d 0 0 _ 50 _ _ (wH G b tbM (cpR U 20 30 1440) h0)
  refine V_aload_n (pc := 50) (i := 0) dX12_restore_50 rfl rfl ?_
  refine VW_getR (pc := 51) dX12_restore_51 fX12_108 (by first | assumption | rfl) rfl ?_
  refine V_aload_n (pc := 54) (i := 0) dX12_restore_54 rfl rfl ?_
  refine VW_getR (pc := 55) dX12_restore_55 fX12_124 (by first | assumption | rfl) rfl ?_
  refine V_S2v (pc := 58) dX12_restore_58 cX12_449 (X12_copyTo (d := 0) (k := 26) (o := 31) (N := 8) rfl rfl (by decide) (by decide) hb) (Nat.le_of_ble_eq_true rfl) (by omega) (Nat.le_of_ble_eq_true rfl) ?_
  show V G mX12_restore d 0 0 _ 61 _ _ (wH G b tbM (cpR (cpR U 20 30 1440) 26 31 8) h0)
  refine V_aload_n (pc := 61) (i := 0) dX12_restore_61 rfl rfl ?_
  refine VW_getR (pc := 62) dX12_restore_62 fX12_111 (by first | assumption | rfl) rfl ?_
  refine V_aload_n (pc := 65) (i := 0) dX12_restore_65 rfl rfl ?_
  refine VW_getR (pc := 66) dX12_restore_66 fX12_127 (by first | assumption | rfl) rfl ?_
  refine V_S2v (pc := 69) dX12_restore_69 cX12_449 (X12_copyTo (d := 0) (k := 27) (o := 32) (N := 8) rfl rfl (by decide) (by decide) hb) (Nat.le_of_ble_eq_true rfl) (by omega) (Nat.le_of_ble_eq_true rfl) ?_
  show V G mX12_restore d 0 0 _ 72 _ _ (wH G b tbM (cpR (cpR (cpR U 20 30 1440) 26 31 8) 27 32 8) h0)
  have e34' : cpR (cpR (cpR U 20 30 1440) 26 31 8) 27 32 8 34 = T 34 := by rw [cpR_off (by decide), cpR_off (by decide), cpR_off (by decide)]; exact e34
  generalize cpR (cpR (cpR U 20 30 1440) 26 31 8) 27 32 8 = W at e34' ⊢
  refine V_iconst (pc := 72) (v := 0) dX12_restore_72 (by decide) ?_
  refine V_istore_n (pc := 73) (i := 1) dX12_restore_73 rfl (by decide) rfl ?_
  have loop : ∀ (m i : Nat) (f : Nat → Int32), m + i = 8 → V G mX12_restore d 0 0 (xE (some (.int 1)) (wH G b tbM (cpR (upR W 28 (cpL (W 34) m i f)) 14 33 3) h0)) 74 [some (.ref (b + 0)), some (.int (nI i))] [] (wH G b tbM (upR W 28 f) h0) := by
    intro m
    induction m with
    | zero =>
      intro i f hm
      refine V_iload_n (pc := 74) (i := 1) dX12_restore_74 rfl rfl ?_
      refine V_bipush (pc := 75) (v := 8) dX12_restore_75 (by decide) ?_
      refine V_icmp_ge (pc := 77) 98 dX12_restore_77 rfl (fun c77 => ?_) (fun c77 => ?_)
      · refine V_aload_n (pc := 98) (i := 0) dX12_restore_98 rfl rfl ?_
        refine VW_getR (pc := 99) dX12_restore_99 fX12_70 (by first | assumption | rfl) rfl ?_
        refine V_aload_n (pc := 102) (i := 0) dX12_restore_102 rfl rfl ?_
        refine VW_getR (pc := 103) dX12_restore_103 fX12_130 (by first | assumption | rfl) rfl ?_
        refine V_S2v (pc := 106) dX12_restore_106 cX12_449 (X12_copyTo (d := 0) (k := 14) (o := 33) (N := 3) rfl rfl (by decide) (by decide) hb) (Nat.le_of_ble_eq_true rfl) (by omega) (Nat.le_of_ble_eq_true rfl) ?_
        refine V_iconst (pc := 109) (v := 1) dX12_restore_109 (by decide) ?_
        exact VE_zret (pc := 110) dX12_restore_110 rfl (Or.inr rfl) rfl rfl
      · exact absurd (by rw [show i = 8 by omega]; decide) c77
    | succ m ih =>
      intro i f hm
      rw [cpL]
      refine V_iload_n (pc := 74) (i := 1) dX12_restore_74 rfl rfl ?_
      refine V_bipush (pc := 75) (v := 8) dX12_restore_75 (by decide) ?_
      refine V_icmp_ge (pc := 77) 98 dX12_restore_77 rfl (fun c77 => ?_) (fun c77 => ?_)
      · exact absurd c77 (nI_ge (b := 8) (by omega) (by decide))
      · refine V_aload_n (pc := 80) (i := 0) dX12_restore_80 rfl rfl ?_
        refine VW_getR (pc := 81) dX12_restore_81 fX12_114 (by first | assumption | rfl) rfl ?_
        refine V_iload_n (pc := 84) (i := 1) dX12_restore_84 rfl rfl ?_
        refine V_aload_n (pc := 85) (i := 0) dX12_restore_85 rfl rfl ?_
        refine VW_getR (pc := 86) dX12_restore_86 fX12_133 (by first | assumption | rfl) rfl ?_
        refine V_iload_n (pc := 89) (i := 1) dX12_restore_89 rfl rfl ?_
        refine VW_zald (pc := 90) dX12_restore_90 (by first | assumption | rfl) (vp_in_nI (by omega) (by decide)) ?_
        rw [nI_clamp (by omega), upR_row (by decide)]
        refine VW_zast (pc := 91) dX12_restore_91 (by first | assumption | rfl) (by assumption) (vp_in_nI (by omega) (by decide)) ?_
        rw [nI_clamp (by omega), up2_upR, nar_01 (by rw [e34']; exact hzT i (by omega))]
        refine V_iinc (pc := 92) dX12_restore_92 (by decide) rfl rfl (iincN (n := 1) (by decide)) ?_
        refine V_goto (pc := 95) 74 dX12_restore_95 rfl ?_
        exact ih (i + 1) _ (by omega)
  rw [show wH G b tbM W h0 = wH G b tbM (upR W 28 (W 28)) h0 by rw [upR_self]]
  exact loop 8 0 _ rfl
/-- what is fed: the k-th byte of the five numbers -/
def fdB (x1 x2 x3 x4 x5 : Int32) (k : Nat) : Int32 := ((if k < 4 then x1 else if k < 8 then x2 else if k < 12 then x3 else if k < 16 then x4 else x5) >>> (((24 : Int32) - 8 * nI (k % 4)) &&& 31)) &&& 255
def fdL (x1 x2 x3 x4 x5 : Int32) (z : Nat) : Nat → Nat → (Nat → Int32) → Nat → Int32
  | 0, _, f => f
  | m + 1, k, f => fdL x1 x2 x3 x4 x5 z m (k + 1) (upd f (z + k) (fdB x1 x2 x3 x4 x5 k))
theorem X12_feed_no {z : Nat} (hz : S 0 16 = nI z) (h7 : 680 < z) (h72 : z ≤ 700) (x1 x2 x3 x4 x5 : Int32) (hb : gB G ≤ b) : VM G mX12_feed d 0 0 [.ref (b + 0), .int x1, .int x2, .int x3, .int x4, .int x5] (xE (some (.int (-1))) (wH G b tbM (up2 S 0 2 0) h0)) (wH G b tbM S h0) := by
  refine VM_start (ls := [some (.ref (b + 0)), some (.int x1), some (.int x2), some (.int x3), some (.int x4), some (.int x5), none, none]) rfl ?_
  -- %m X12_feed
  refine V_aload_n (pc := 0) (i := 0) dX12_feed_0 rfl rfl ?_
  refine V_iconst (pc := 1) (v := 0) dX12_feed_1 (by decide) ?_
  refine VW_putI (pc := 2) dX12_feed_2 fX12_139 ftX12 (fpI rfl rfl (tyX12_ok 2 (by decide))) (by first | assumption | rfl) rfl (by assumption) ?_
  refine V_aload_n (pc := 5) (i := 0) dX12_feed_5 rfl rfl ?_
  refine VW_getI (pc := 6) dX12_feed_6 fX12_150 (by first | assumption | rfl) rfl ?_
  rw [up2_col (by decide), hz]
  refine V_bipush (pc := 9) (v := 20) dX12_feed_9 (by decide) ?_
  refine V_iadd (pc := 11) dX12_feed_11 ?_
  refine V_sipush (pc := 12) (v := 700) dX12_feed_12 (by decide) ?_
  rw [show nI z + 20 = nI (z + 20) from ix1 20 20 rfl]
  refine V_icmp_le (pc := 15) 20 dX12_feed_15 rfl (fun c15 => ?_) (fun c15 => ?_)
  · exact absurd c15 (nI_ge (b := z + 20) (a := 700) (by omega) (by omega))
  · refine V_iconst (pc := 18) (v := -1) dX12_feed_18 (by decide) ?_
    exact VE_iret (pc := 19) dX12_feed_19 rfl rfl rfl
theorem X12_feed_ok {z : Nat} (hz : S 0 16 = nI z) (h7 : z ≤ 680) (x1 x2 x3 x4 x5 : Int32) (hb : gB G ≤ b) : VM G mX12_feed d 0 0 [.ref (b + 0), .int x1, .int x2, .int x3, .int x4, .int x5] (xE (some (.int (nI (z + 20)))) (wH G b tbM (up2 (upR (up2 S 0 2 0) 15 (fdL x1 x2 x3 x4 x5 z 20 0 (S 15))) 0 16 (nI (z + 20))) h0)) (wH G b tbM S h0) := by
  have hzT : up2 S 0 2 0 0 16 = nI z := by rw [up2_col (by decide)]; exact hz
  refine VM_start (ls := [some (.ref (b + 0)), some (.int x1), some (.int x2), some (.int x3), some (.int x4), some (.int x5), none, none]) rfl ?_
  rw [show S 15 = up2 S 0 2 0 15 from (up2_row (by decide)).symm]
  -- %m X12_feed
  refine V_aload_n (pc := 0) (i := 0) dX12_feed_0 rfl rfl ?_
  refine V_iconst (pc := 1) (v := 0) dX12_feed_1 (by decide) ?_
  refine VW_putI (pc := 2) dX12_feed_2 fX12_139 ftX12 (fpI rfl rfl (tyX12_ok 2 (by decide))) (by first | assumption | rfl) rfl (by assumption) ?_
  generalize up2 S 0 2 0 = T at hzT ⊢
  refine V_aload_n (pc := 5) (i := 0) dX12_feed_5 rfl rfl ?_
  refine VW_getI (pc := 6) dX12_feed_6 fX12_150 (by first | assumption | rfl) rfl ?_
  rw [hzT]
  refine V_bipush (pc := 9) (v := 20) dX12_feed_9 (by decide) ?_
  refine V_iadd (pc := 11) dX12_feed_11 ?_
  refine V_sipush (pc := 12) (v := 700) dX12_feed_12 (by decide) ?_
  rw [show nI z + 20 = nI (z + 20) from ix1 20 20 rfl]
  refine V_icmp_le (pc := 15) 20 dX12_feed_15 rfl (fun _ => ?_) (fun c => absurd (nI_le (b := 700) (by omega) (by decide)) c)
  refine V_iconst (pc := 20) (v := 0) dX12_feed_20 (by decide) ?_
  refine V_istore (pc := 21) dX12_feed_21 (by decide) rfl ?_
  have stp : ∀ (k : Nat) (f : Nat → Int32) (w : Int32) (Q : xR → xH → Prop), k < 20 → w = (if k < 4 then x1 else if k < 8 then x2 else if k < 12 then x3 else if k < 16 then x4 else x5) → V G mX12_feed d 0 0 Q 23 [some (.ref (b + 0)), some (.int x1), some (.int x2), some (.int x3), some (.int x4), some (.int x5), some (.int (nI (k + 1))), none] [] (wH G b tbM (up2 (upR T 15 (upd f (z + k) (fdB x1 x2 x3 x4 x5 k))) 0 16 (nI (z + k + 1))) h0) → V G mX12_feed d 0 0 Q 76 [some (.ref (b + 0)), some (.int x1), some (.int x2), some (.int x3), some (.int x4), some (.int x5), some (.int (nI k)), none] [.int w] (wH G b tbM (up2 (upR T 15 f) 0 16 (nI (z + k))) h0) := by
    intro k f w Q hk hw kk
    refine V_istore (pc := 76) dX12_feed_76 (by decide) rfl ?_
    refine V_aload_n (pc := 78) (i := 0) dX12_feed_78 rfl rfl ?_
    refine VW_getR (pc := 79) dX12_feed_79 fX12_73 (by first | assumption | rfl) rfl ?_
    refine V_aload_n (pc := 82) (i := 0) dX12_feed_82 rfl rfl ?_
    refine VW_getI (pc := 83) dX12_feed_83 fX12_150 (by first | assumption | rfl) rfl ?_
    rw [up2_same]
    refine V_iload (pc := 86) dX12_feed_86 rfl ?_
    refine V_bipush (pc := 88) (v := 24) dX12_feed_88 (by decide) ?_
    refine V_bipush (pc := 90) (v := 8) dX12_feed_90 (by decide) ?_
    refine V_iload (pc := 92) dX12_feed_92 rfl ?_
    refine V_iconst (pc := 94) (v := 4) dX12_feed_94 (by decide) ?_
    refine V_irem (pc := 95) dX12_feed_95 (by decide) ?_
    rw [show nI k - nI k / 4 * 4 = nI (k % 4) from pk_rem (d := 4) (by omega) (by decide) (by decide)]
    refine V_imul (pc := 96) dX12_feed_96 ?_
    refine V_isub (pc := 97) dX12_feed_97 ?_
    refine V_ishr (pc := 98) dX12_feed_98 ?_
    refine V_sipush (pc := 99) (v := 255) dX12_feed_99 (by decide) ?_
    refine V_iand (pc := 102) dX12_feed_102 ?_
    refine VW_iastN (pc := 103) dX12_feed_103 rfl (by assumption) (j := z + k) rfl (by omega) (by decide) ?_
    rw [show up2 (up2 (upR T 15 f) 0 16 (nI (z + k))) 15 (z + k) ((w >>> ((24 - 8 * nI (k % 4)) &&& 31)) &&& 255) = up2 (upR T 15 (upd f (z + k) (fdB x1 x2 x3 x4 x5 k))) 0 16 (nI (z + k)) from by
      rw [show fdB x1 x2 x3 x4 x5 k = (w >>> ((24 - 8 * nI (k % 4)) &&& 31)) &&& 255 by rw [hw]; rfl]
      funext k' j
      by_cases e : k' = 15
      · subst e
        by_cases e2 : j = z + k
        · subst e2; rw [up2_same, up2_row (by decide), upR_same, updS]
        · rw [up2_col e2, up2_row (by decide), up2_row (by decide), upR_same, upR_same, updN e2]
      · rw [up2_row e]
        by_cases e2 : k' = 0
        · subst e2
          by_cases e3 : j = 16
          · subst e3; rw [up2_same, up2_same]
          · rw [up2_col e3, up2_col e3, upR_row (by decide), upR_row (by decide)]
        · rw [up2_row e2, up2_row e2, upR_row e, upR_row e]]
    refine V_aload_n (pc := 104) (i := 0) dX12_feed_104 rfl rfl ?_
    refine V_dup (pc := 105) dX12_feed_105 rfl ?_
    refine VW_getI (pc := 106) dX12_feed_106 fX12_150 (by first | assumption | rfl) rfl ?_
    rw [up2_same]
    refine V_iconst (pc := 109) (v := 1) dX12_feed_109 (by decide) ?_
    refine V_iadd (pc := 110) dX12_feed_110 ?_
    rw [nI_1]
    refine VW_putI (pc := 111) dX12_feed_111 fX12_150 ftX12 (fpI rfl rfl (tyX12_ok 16 (by decide))) (by first | assumption | rfl) rfl (by assumption) ?_
    rw [up2_up2]
    refine V_iinc (pc := 114) dX12_feed_114 (by decide) rfl rfl (iincN (n := 1) (by decide)) ?_
    refine V_goto (pc := 117) 23 dX12_feed_117 rfl ?_
    exact V_forget 7 kk
  have loop : ∀ (m k : Nat) (f : Nat → Int32), m + k = 20 → V G mX12_feed d 0 0 (xE (some (.int (nI (z + 20)))) (wH G b tbM (up2 (upR T 15 (fdL x1 x2 x3 x4 x5 z m k f)) 0 16 (nI (z + 20))) h0)) 23 [some (.ref (b + 0)), some (.int x1), some (.int x2), some (.int x3), some (.int x4), some (.int x5), some (.int (nI k)), none] [] (wH G b tbM (up2 (upR T 15 f) 0 16 (nI (z + k))) h0) := by
    intro m
    induction m with
    | zero =>
      intro k f hm
      rw [show k = 20 by omega]
      refine V_iload (pc := 23) dX12_feed_23 rfl ?_
      refine V_bipush (pc := 25) (v := 20) dX12_feed_25 (by decide) ?_
      refine V_icmp_ge (pc := 27) 120 dX12_feed_27 rfl (fun c27 => ?_) (fun c27 => ?_)
      · refine V_aload_n (pc := 120) (i := 0) dX12_feed_120 rfl rfl ?_
        refine VW_getI (pc := 121) dX12_feed_121 fX12_150 (by first | assumption | rfl) rfl ?_
        rw [up2_same]
        exact VE_iret (pc := 124) dX12_feed_124 rfl rfl rfl
      · exact absurd (by decide) c27
    | succ m ih =>
      intro k f hm
      rw [fdL]
      have ihh := ih (k + 1) (upd f (z + k) (fdB x1 x2 x3 x4 x5 k)) (by omega)
      refine V_iload (pc := 23) dX12_feed_23 rfl ?_
      refine V_bipush (pc := 25) (v := 20) dX12_feed_25 (by decide) ?_
      refine V_icmp_ge (pc := 27) 120 dX12_feed_27 rfl (fun c27 => ?_) (fun c27 => ?_)
      · exact absurd c27 (nI_ge (b := 20) (by omega) (by decide))
      · refine V_iload (pc := 30) dX12_feed_30 rfl ?_
        refine V_iconst (pc := 32) (v := 4) dX12_feed_32 (by decide) ?_
        refine V_icmp_ge (pc := 33) 40 dX12_feed_33 rfl (fun c33 => ?_) (fun c33 => ?_)
        · have q4 : ¬ k < 4 := fun q => nI_ge (b := 4) q (by decide) c33
          refine V_iload (pc := 40) dX12_feed_40 rfl ?_
          refine V_bipush (pc := 42) (v := 8) dX12_feed_42 (by decide) ?_
          refine V_icmp_ge (pc := 44) 51 dX12_feed_44 rfl (fun c44 => ?_) (fun c44 => ?_)
          · have q8 : ¬ k < 8 := fun q => nI_ge (b := 8) q (by decide) c44
            refine V_iload (pc := 51) dX12_feed_51 rfl ?_
            refine V_bipush (pc := 53) (v := 12) dX12_feed_53 (by decide) ?_
            refine V_icmp_ge (pc := 55) 62 dX12_feed_55 rfl (fun c55 => ?_) (fun c55 => ?_)
            · have q12 : ¬ k < 12 := fun q => nI_ge (b := 12) q (by decide) c55
              refine V_iload (pc := 62) dX12_feed_62 rfl ?_
              refine V_bipush (pc := 64) (v := 16) dX12_feed_64 (by decide) ?_
              refine V_icmp_ge (pc := 66) 74 dX12_feed_66 rfl (fun c66 => ?_) (fun c66 => ?_)
              · have q16 : ¬ k < 16 := fun q => nI_ge (b := 16) q (by decide) c66
                refine V_iload (pc := 74) dX12_feed_74 rfl ?_
                refine stp k f _ _ (by omega) ?_ ihh
                simp [*]
              · have q16 : k < 16 := Nat.not_le.mp (fun q => c66 (nI_le (a := 16) q (by omega)))
                refine V_iload (pc := 69) dX12_feed_69 rfl ?_
                refine V_goto (pc := 71) 76 dX12_feed_71 rfl ?_
                refine stp k f _ _ (by omega) ?_ ihh
                simp [*]
            · have q12 : k < 12 := Nat.not_le.mp (fun q => c55 (nI_le (a := 12) q (by omega)))
              refine V_iload_n (pc := 58) (i := 3) dX12_feed_58 rfl rfl ?_
              refine V_goto (pc := 59) 76 dX12_feed_59 rfl ?_
              refine stp k f _ _ (by omega) ?_ ihh
              simp [*]
          · have q8 : k < 8 := Nat.not_le.mp (fun q => c44 (nI_le (a := 8) q (by omega)))
            refine V_iload_n (pc := 47) (i := 2) dX12_feed_47 rfl rfl ?_
            refine V_goto (pc := 48) 76 dX12_feed_48 rfl ?_
            refine stp k f _ _ (by omega) ?_ ihh
            simp [*]
        · have q4 : k < 4 := Nat.not_le.mp (fun q => c33 (nI_le (a := 4) q (by omega)))
          refine V_iload_n (pc := 36) (i := 1) dX12_feed_36 rfl rfl ?_
          refine V_goto (pc := 37) 76 dX12_feed_37 rfl ?_
          refine stp k f _ _ (by omega) ?_ ihh
          simp [*]
  have k0 := loop 20 0 (T 15) rfl
  rw [upR_self] at k0
  rw [show wH G b tbM T h0 = wH G b tbM (up2 T 0 16 (nI (z + 0))) h0 by rw [Nat.add_zero, ← hzT, up2_self]]
  exact k0
end M13
