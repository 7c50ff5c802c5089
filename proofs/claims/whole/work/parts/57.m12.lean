/-! ===== the model: ACTS, counts, the image ===== -/
section M12
variable {G : xG} {d : Nat} {b : Nat} {S T U : Nat → Nat → Int32} {h0 h : xH}
theorem X12_undo_no (ha : S 0 36 = 0) (hb : gB G ≤ b) (hd : 2 ≤ d) : VM G mX12_undo d 0 0 [.ref (b + 0)] (xE (some (.int (-1))) (wH G b tbM (up2 S 0 2 0) h0)) (wH G b tbM S h0) := by
  refine VM_start (ls := [some (.ref (b + 0))]) rfl ?_
  -- %m X12_undo
  refine V_aload_n (pc := 0) (i := 0) dX12_undo_0 rfl rfl ?_
  refine V_iconst (pc := 1) (v := 0) dX12_undo_1 (by decide) ?_
  refine VW_putI (pc := 2) dX12_undo_2 fX12_139 ftX12 (fpI rfl rfl (tyX12_ok 2 (by decide))) (by first | assumption | rfl) rfl (by assumption) ?_
  refine V_aload_n (pc := 5) (i := 0) dX12_undo_5 rfl rfl ?_
  refine VW_getI (pc := 6) dX12_undo_6 fX12_307 (by first | assumption | rfl) rfl ?_
  rw [up2_col (by decide)]
  refine V_if_ne (pc := 9) 14 dX12_undo_9 rfl (fun c9 => ?_) (fun c9 => ?_)
  · exact absurd ha c9
  · refine V_iconst (pc := 12) (v := -1) dX12_undo_12 (by decide) ?_
    exact VE_iret (pc := 13) dX12_undo_13 rfl rfl rfl
theorem X12_undo_ok {na : Nat} (ha : S 0 36 = nI (na + 1)) (hna : na < 40) (hb : gB G ≤ b) (hd : 2 ≤ d) : VM G mX12_undo d 0 0 [.ref (b + 0)] (xE (some (.int (nI na))) (wH G b tbM (unR (S 20) (36 * na) (up2 (up2 S 0 2 0) 0 36 (nI na))) h0)) (wH G b tbM S h0) := by
  have haT : up2 S 0 2 0 0 36 = nI (na + 1) := by rw [up2_col (by decide)]; exact ha
  have h20 : up2 S 0 2 0 20 = S 20 := up2_row (by decide)
  refine VM_start (ls := [some (.ref (b + 0))]) rfl ?_
  rw [← h20]
  -- %m X12_undo
  refine V_aload_n (pc := 0) (i := 0) dX12_undo_0 rfl rfl ?_
  refine V_iconst (pc := 1) (v := 0) dX12_undo_1 (by decide) ?_
  refine VW_putI (pc := 2) dX12_undo_2 fX12_139 ftX12 (fpI rfl rfl (tyX12_ok 2 (by decide))) (by first | assumption | rfl) rfl (by assumption) ?_
  generalize up2 S 0 2 0 = T at haT h20 ⊢
  refine V_aload_n (pc := 5) (i := 0) dX12_undo_5 rfl rfl ?_
  refine VW_getI (pc := 6) dX12_undo_6 fX12_307 (by first | assumption | rfl) rfl ?_
  rw [haT]
  refine V_if_ne (pc := 9) 14 dX12_undo_9 rfl (fun c9 => ?_) (fun c9 => ?_)
  · refine V_aload_n (pc := 14) (i := 0) dX12_undo_14 rfl rfl ?_
    refine V_dup (pc := 15) dX12_undo_15 rfl ?_
    refine VW_getI (pc := 16) dX12_undo_16 fX12_307 (by first | assumption | rfl) rfl ?_
    rw [haT]
    refine V_iconst (pc := 19) (v := 1) dX12_undo_19 (by decide) ?_
    refine V_isub (pc := 20) dX12_undo_20 ?_
    rw [nI_pred]
    refine VW_putI (pc := 21) dX12_undo_21 fX12_307 ftX12 (fpI rfl rfl (tyX12_ok 36 (by decide))) (by first | assumption | rfl) rfl (by assumption) ?_
    refine V_aload_n (pc := 24) (i := 0) dX12_undo_24 rfl rfl ?_
    refine V_aload_n (pc := 25) (i := 0) dX12_undo_25 rfl rfl ?_
    refine VW_getR (pc := 26) dX12_undo_26 fX12_90 (by first | assumption | rfl) rfl ?_
    refine V_bipush (pc := 29) (v := 36) dX12_undo_29 (by decide) ?_
    refine V_aload_n (pc := 31) (i := 0) dX12_undo_31 rfl rfl ?_
    refine VW_getI (pc := 32) dX12_undo_32 fX12_307 (by first | assumption | rfl) rfl ?_
    rw [up2_same]
    refine V_imul (pc := 35) dX12_undo_35 ?_
    rw [show (36 : Int32) * nI na = nI (36 * na) from pk_mul 36 na]
    refine V_V2v (pc := 36) dX12_undo_36 cX12_407 (by first | assumption | rfl) (X12_unpack (d := 0) (r := 20) (N := 1440) (a := 36 * na) rfl (by decide) (by omega) (by decide) hb) (Nat.le_of_ble_eq_true rfl) (by omega) (Nat.le_of_ble_eq_true rfl) ?_
    rw [up2_row (show (20 : Nat) ≠ 0 by decide)]
    refine V_aload_n (pc := 39) (i := 0) dX12_undo_39 rfl rfl ?_
    refine VW_getI (pc := 40) dX12_undo_40 fX12_307 (by first | assumption | rfl) rfl ?_
    rw [unR_0 (by decide), up2_same]
    exact VE_iret (pc := 43) dX12_undo_43 rfl rfl rfl
  · exact absurd c9 (nI_ne0 (by omega) (by omega))
theorem X12_bridge_no {x : Int32} (hx : inR x 1 8 = false) (hb : gB G ≤ b) (hd : 2 ≤ d) : VM G mX12_bridge d 0 0 [.ref (b + 0), .int x] (xE (some (.int (-1))) (wH G b tbM (up2 (up2 S 0 2 0) 14 1 (up2 S 0 2 0 14 1 + 1)) h0)) (wH G b tbM S h0) := by
  refine VM_start (ls := [some (.ref (b + 0)), some (.int x), none]) rfl ?_
  -- %m X12_bridge
  refine V_aload_n (pc := 0) (i := 0) dX12_bridge_0 rfl rfl ?_
  refine V_iconst (pc := 1) (v := 0) dX12_bridge_1 (by decide) ?_
  refine VW_putI (pc := 2) dX12_bridge_2 fX12_139 ftX12 (fpI rfl rfl (tyX12_ok 2 (by decide))) (by first | assumption | rfl) rfl (by assumption) ?_
  refine V_iload_n (pc := 5) (i := 1) dX12_bridge_5 rfl rfl ?_
  refine V_i2l (pc := 6) dX12_bridge_6 rfl ?_
  refine V_lconst (pc := 7) (v := 1) dX12_bridge_7 (by decide) ?_
  refine V_ldc2 (pc := 8) dX12_bridge_8 lX12_405 ?_
  refine V_S3i (pc := 11) dX12_bridge_11 cX12_142 (X12_isInC (d := 0) _ (l' := 1) (m' := 8) (by decide) (by decide)) (Nat.le_of_ble_eq_true rfl) (by omega) (Nat.le_of_ble_eq_true rfl) ?_
  refine V_if_ne (pc := 14) 23 dX12_bridge_14 rfl (fun c14 => ?_) (fun c14 => ?_)
  · rw [hx] at c14; exact absurd rfl c14
  · refine V_aload_n (pc := 17) (i := 0) dX12_bridge_17 rfl rfl ?_
    refine V_iconst (pc := 18) (v := 1) dX12_bridge_18 (by decide) ?_
    refine V_V1i (pc := 19) dX12_bridge_19 cX12_393 (by first | assumption | rfl) (X12_refuse (k := 1) (d := 0) (by decide) hb) (Nat.le_of_ble_eq_true rfl) (by omega) (Nat.le_of_ble_eq_true rfl) ?_
    exact VE_iret (pc := 22) dX12_bridge_22 rfl rfl rfl
theorem X12_bridge_ok {k na : Nat} (hk1 : 1 ≤ k) (hk : k ≤ 8) (ha : S 0 36 = nI na) (hna : na ≤ 40) (hb : gB G ≤ b) (hd : 3 ≤ d) : VM G mX12_bridge d 0 0 [.ref (b + 0), .int (nI k)] (xE (some (.int (mKeep (up2 S 0 2 0) na 0 35))) (wH G b tbM (up2 (mKeep (up2 S 0 2 0) na) 0 35 (nI k)) h0)) (wH G b tbM S h0) := by
  have haT : up2 S 0 2 0 0 36 = nI na := by rw [up2_col (by decide)]; exact ha
  have hin : inR (nI k) 1 8 = true := inR_ok (l := 1) (m := 8) hk1 hk (by decide)
  refine VM_start (ls := [some (.ref (b + 0)), some (.int (nI k)), none]) rfl ?_
  -- %m X12_bridge
  refine V_aload_n (pc := 0) (i := 0) dX12_bridge_0 rfl rfl ?_
  refine V_iconst (pc := 1) (v := 0) dX12_bridge_1 (by decide) ?_
  refine VW_putI (pc := 2) dX12_bridge_2 fX12_139 ftX12 (fpI rfl rfl (tyX12_ok 2 (by decide))) (by first | assumption | rfl) rfl (by assumption) ?_
  generalize up2 S 0 2 0 = T at haT ⊢
  refine V_iload_n (pc := 5) (i := 1) dX12_bridge_5 rfl rfl ?_
  refine V_i2l (pc := 6) dX12_bridge_6 rfl ?_
  refine V_lconst (pc := 7) (v := 1) dX12_bridge_7 (by decide) ?_
  refine V_ldc2 (pc := 8) dX12_bridge_8 lX12_405 ?_
  refine V_S3i (pc := 11) dX12_bridge_11 cX12_142 (X12_isInC (d := 0) _ (l' := 1) (m' := 8) (by decide) (by decide)) (Nat.le_of_ble_eq_true rfl) (by omega) (Nat.le_of_ble_eq_true rfl) ?_
  refine V_if_ne (pc := 14) 23 dX12_bridge_14 rfl (fun c14 => ?_) (fun c14 => ?_)
  · refine V_aload_n (pc := 23) (i := 0) dX12_bridge_23 rfl rfl ?_
    refine V_V0v (pc := 24) dX12_bridge_24 cX12_396 (by first | assumption | rfl) (X12_keep (d := 1) haT hna hb (by omega)) (Nat.le_of_ble_eq_true rfl) (by omega) (Nat.le_of_ble_eq_true rfl) ?_
    refine V_aload_n (pc := 27) (i := 0) dX12_bridge_27 rfl rfl ?_
    refine VW_getI (pc := 28) dX12_bridge_28 fX12_136 (by first | assumption | rfl) rfl ?_
    refine V_istore_n (pc := 31) (i := 2) dX12_bridge_31 rfl (by decide) rfl ?_
    refine V_aload_n (pc := 32) (i := 0) dX12_bridge_32 rfl rfl ?_
    refine V_iload_n (pc := 33) (i := 1) dX12_bridge_33 rfl rfl ?_
    refine VW_putI (pc := 34) dX12_bridge_34 fX12_136 ftX12 (fpI rfl rfl (tyX12_ok 35 (by decide))) (by first | assumption | rfl) rfl (by assumption) ?_
    refine V_iload_n (pc := 37) (i := 2) dX12_bridge_37 rfl rfl ?_
    exact VE_iret (pc := 38) dX12_bridge_38 rfl rfl rfl
  · rw [hin] at c14; exact absurd c14 (by decide)
theorem X12_has_no {n pp r bb q t : Nat} (ci : MI S n pp r bb) (hq : q < pp) (ht : t < 10) {v : Int32} (hv : b2i (hasB (S 16 q) (nI t)) = v) (hb : gB G ≤ b) (hd : 3 ≤ d) : VM G mX12_has d 0 0 [.ref (b + 0), .int (nI q), .int (nI t), .int v] (xE (some (.int (-1))) (wH G b tbM (up2 (up2 S 0 2 0) 14 1 (up2 S 0 2 0 14 1 + 1)) h0)) (wH G b tbM S h0) := by
  have ciT := ci.cz (j := 2) (x := 0) (by decide)
  have hvT : b2i (hasB (up2 S 0 2 0 16 q) (nI t)) = v := by rw [up2_row (by decide)]; exact hv
  have h8 : pp ≤ 8 := ci.2.2.2.2.1
  refine VM_start (ls := [some (.ref (b + 0)), some (.int (nI q)), some (.int (nI t)), some (.int v)]) rfl ?_
  -- %m X12_has
  have h1i : inR (nI q) 0 (nI pp - 1) = true := inR_pp (by omega) (by omega)
  have h2i : inR (nI t) 0 9 = true := inR_ok (l := 0) (m := 9) (by omega) (by omega) (by decide)
  refine V_aload_n (pc := 0) (i := 0) dX12_has_0 rfl rfl ?_
  refine V_iconst (pc := 1) (v := 0) dX12_has_1 (by decide) ?_
  refine VW_putI (pc := 2) dX12_has_2 fX12_139 ftX12 (fpI rfl rfl (tyX12_ok 2 (by decide))) (by first | assumption | rfl) rfl (by assumption) ?_
  generalize up2 S 0 2 0 = T at ciT hvT ⊢
  obtain ⟨hn, h12, hg, hp, -⟩ := id ciT
  refine V_aload_n (pc := 5) (i := 0) dX12_has_5 rfl rfl ?_
  refine V_iload_n (pc := 6) (i := 1) dX12_has_6 rfl rfl ?_
  refine V_V1i (pc := 7) dX12_has_7 cX12_384 (by first | assumption | rfl) (X12_isPerson (d := 1) _ (by omega)) (Nat.le_of_ble_eq_true rfl) (by omega) (Nat.le_of_ble_eq_true rfl) ?_
  rw [hp]
  refine V_if_eq (pc := 10) 20 dX12_has_10 rfl (fun c10 => ?_) (fun c10 => ?_)
  · rw [h1i] at c10; exact absurd c10 (by decide)
  · refine V_iload_n (pc := 13) (i := 2) dX12_has_13 rfl rfl ?_
    refine V_S1i (pc := 14) dX12_has_14 cX12_378 (X12_isThing (d := 1) _ (by omega)) (Nat.le_of_ble_eq_true rfl) (by omega) (Nat.le_of_ble_eq_true rfl) ?_
    refine V_if_ne (pc := 17) 26 dX12_has_17 rfl (fun c17 => ?_) (fun c17 => ?_)
    · refine V_aload_n (pc := 26) (i := 0) dX12_has_26 rfl rfl ?_
      refine VW_getR (pc := 27) dX12_has_27 fX12_80 (by first | assumption | rfl) rfl ?_
      refine V_iload_n (pc := 30) (i := 1) dX12_has_30 rfl rfl ?_
      refine VW_ialdN (pc := 31) dX12_has_31 (by first | assumption | rfl) rfl (by omega) (by first | decide | omega) ?_
      refine V_iload_n (pc := 32) (i := 2) dX12_has_32 rfl rfl ?_
      refine V_S2i (pc := 33) dX12_has_33 cX12_263 (X12_isOf (d := 0) _ _) (Nat.le_of_ble_eq_true rfl) (by omega) (Nat.le_of_ble_eq_true rfl) ?_
      refine V_iload_n (pc := 36) (i := 3) dX12_has_36 rfl rfl ?_
      refine V_icmp_ne (pc := 37) 46 dX12_has_37 rfl (fun c37 => ?_) (fun c37 => ?_)
      · exact absurd hvT c37
      · refine V_aload_n (pc := 40) (i := 0) dX12_has_40 rfl rfl ?_
        refine V_iconst (pc := 41) (v := 1) dX12_has_41 (by decide) ?_
        refine V_V1i (pc := 42) dX12_has_42 cX12_393 (by first | assumption | rfl) (X12_refuse (k := 1) (d := 0) (by decide) hb) (Nat.le_of_ble_eq_true rfl) (by omega) (Nat.le_of_ble_eq_true rfl) ?_
        exact VE_iret (pc := 45) dX12_has_45 rfl rfl rfl
    · rw [h2i] at c17; exact absurd c17 (by decide)
theorem X12_has_ok {n pp r bb q t na : Nat} (ci : MI S n pp r bb) (hq : q < pp) (ht : t < 10) {v : Int32} (hv : ¬ b2i (hasB (S 16 q) (nI t)) = v) (ha : S 0 36 = nI na) (hna : na ≤ 40) (hb : gB G ≤ b) (hd : 3 ≤ d) : VM G mX12_has d 0 0 [.ref (b + 0), .int (nI q), .int (nI t), .int v] (xE (some (.int (mKeep (up2 S 0 2 0) na 16 q ^^^ 1 <<< (nI t &&& 31)))) (wH G b tbM (up2 (mKeep (up2 S 0 2 0) na) 16 q (mKeep (up2 S 0 2 0) na 16 q ^^^ 1 <<< (nI t &&& 31))) h0)) (wH G b tbM S h0) := by
  have ciT := ci.cz (j := 2) (x := 0) (by decide)
  have hvT : ¬ b2i (hasB (up2 S 0 2 0 16 q) (nI t)) = v := by rw [up2_row (by decide)]; exact hv
  have haT : up2 S 0 2 0 0 36 = nI na := by rw [up2_col (by decide)]; exact ha
  have h8 : pp ≤ 8 := ci.2.2.2.2.1
  refine VM_start (ls := [some (.ref (b + 0)), some (.int (nI q)), some (.int (nI t)), some (.int v)]) rfl ?_
  -- %m X12_has
  have h1i : inR (nI q) 0 (nI pp - 1) = true := inR_pp (by omega) (by omega)
  have h2i : inR (nI t) 0 9 = true := inR_ok (l := 0) (m := 9) (by omega) (by omega) (by decide)
  refine V_aload_n (pc := 0) (i := 0) dX12_has_0 rfl rfl ?_
  refine V_iconst (pc := 1) (v := 0) dX12_has_1 (by decide) ?_
  refine VW_putI (pc := 2) dX12_has_2 fX12_139 ftX12 (fpI rfl rfl (tyX12_ok 2 (by decide))) (by first | assumption | rfl) rfl (by assumption) ?_
  generalize up2 S 0 2 0 = T at ciT hvT haT ⊢
  obtain ⟨hn, h12, hg, hp, -⟩ := id ciT
  refine V_aload_n (pc := 5) (i := 0) dX12_has_5 rfl rfl ?_
  refine V_iload_n (pc := 6) (i := 1) dX12_has_6 rfl rfl ?_
  refine V_V1i (pc := 7) dX12_has_7 cX12_384 (by first | assumption | rfl) (X12_isPerson (d := 1) _ (by omega)) (Nat.le_of_ble_eq_true rfl) (by omega) (Nat.le_of_ble_eq_true rfl) ?_
  rw [hp]
  refine V_if_eq (pc := 10) 20 dX12_has_10 rfl (fun c10 => ?_) (fun c10 => ?_)
  · rw [h1i] at c10; exact absurd c10 (by decide)
  · refine V_iload_n (pc := 13) (i := 2) dX12_has_13 rfl rfl ?_
    refine V_S1i (pc := 14) dX12_has_14 cX12_378 (X12_isThing (d := 1) _ (by omega)) (Nat.le_of_ble_eq_true rfl) (by omega) (Nat.le_of_ble_eq_true rfl) ?_
    refine V_if_ne (pc := 17) 26 dX12_has_17 rfl (fun c17 => ?_) (fun c17 => ?_)
    · refine V_aload_n (pc := 26) (i := 0) dX12_has_26 rfl rfl ?_
      refine VW_getR (pc := 27) dX12_has_27 fX12_80 (by first | assumption | rfl) rfl ?_
      refine V_iload_n (pc := 30) (i := 1) dX12_has_30 rfl rfl ?_
      refine VW_ialdN (pc := 31) dX12_has_31 (by first | assumption | rfl) rfl (by omega) (by first | decide | omega) ?_
      refine V_iload_n (pc := 32) (i := 2) dX12_has_32 rfl rfl ?_
      refine V_S2i (pc := 33) dX12_has_33 cX12_263 (X12_isOf (d := 0) _ _) (Nat.le_of_ble_eq_true rfl) (by omega) (Nat.le_of_ble_eq_true rfl) ?_
      refine V_iload_n (pc := 36) (i := 3) dX12_has_36 rfl rfl ?_
      refine V_icmp_ne (pc := 37) 46 dX12_has_37 rfl (fun c37 => ?_) (fun c37 => ?_)
      · refine V_aload_n (pc := 46) (i := 0) dX12_has_46 rfl rfl ?_
        refine V_V0v (pc := 47) dX12_has_47 cX12_396 (by first | assumption | rfl) (X12_keep (d := 1) haT hna hb (by omega)) (Nat.le_of_ble_eq_true rfl) (by omega) (Nat.le_of_ble_eq_true rfl) ?_
        refine V_aload_n (pc := 50) (i := 0) dX12_has_50 rfl rfl ?_
        refine VW_getR (pc := 51) dX12_has_51 fX12_80 (by first | assumption | rfl) rfl ?_
        refine V_iload_n (pc := 54) (i := 1) dX12_has_54 rfl rfl ?_
        refine V_dup2 (pc := 55) dX12_has_55 rfl rfl ?_
        refine VW_ialdN (pc := 56) dX12_has_56 (by first | assumption | rfl) rfl (by omega) (by first | decide | omega) ?_
        refine V_iconst (pc := 57) (v := 1) dX12_has_57 (by decide) ?_
        refine V_iload_n (pc := 58) (i := 2) dX12_has_58 rfl rfl ?_
        refine V_ishl (pc := 59) dX12_has_59 ?_
        refine V_ixor (pc := 60) dX12_has_60 ?_
        refine VW_iastN (pc := 61) dX12_has_61 (by first | assumption | rfl) (by assumption) rfl (by omega) (by first | decide | omega) ?_
        refine V_aload_n (pc := 62) (i := 0) dX12_has_62 rfl rfl ?_
        refine VW_getR (pc := 63) dX12_has_63 fX12_80 (by first | assumption | rfl) rfl ?_
        refine V_iload_n (pc := 66) (i := 1) dX12_has_66 rfl rfl ?_
        refine VW_ialdN (pc := 67) dX12_has_67 (by first | assumption | rfl) rfl (by omega) (by first | decide | omega) ?_
        rw [up2_same]
        exact VE_iret (pc := 68) dX12_has_68 rfl rfl rfl
      · exact absurd c37 hvT
    · rw [h2i] at c17; exact absurd c17 (by decide)
theorem X12_miss_no {n pp r bb q t : Nat} (ci : MI S n pp r bb) (hq : q < pp) (ht : t < 10) (hv : S 17 q = nI t) (hb : gB G ≤ b) (hd : 3 ≤ d) : VM G mX12_miss d 0 0 [.ref (b + 0), .int (nI q), .int (nI t)] (xE (some (.int (-1))) (wH G b tbM (up2 (up2 S 0 2 0) 14 1 (up2 S 0 2 0 14 1 + 1)) h0)) (wH G b tbM S h0) := by
  have ciT := ci.cz (j := 2) (x := 0) (by decide)
  have hvT : up2 S 0 2 0 17 q = nI t := by rw [up2_row (by decide)]; exact hv
  have h8 : pp ≤ 8 := ci.2.2.2.2.1
  refine VM_start (ls := [some (.ref (b + 0)), some (.int (nI q)), some (.int (nI t)), none]) rfl ?_
  -- %m X12_miss
  have h1i : inR (nI q) 0 (nI pp - 1) = true := inR_pp (by omega) (by omega)
  have h2i : inR (nI t) 0 9 = true := inR_ok (l := 0) (m := 9) (by omega) (by omega) (by decide)
  refine V_aload_n (pc := 0) (i := 0) dX12_miss_0 rfl rfl ?_
  refine V_iconst (pc := 1) (v := 0) dX12_miss_1 (by decide) ?_
  refine VW_putI (pc := 2) dX12_miss_2 fX12_139 ftX12 (fpI rfl rfl (tyX12_ok 2 (by decide))) (by first | assumption | rfl) rfl (by assumption) ?_
  generalize up2 S 0 2 0 = T at ciT hvT ⊢
  obtain ⟨hn, h12, hg, hp, -⟩ := id ciT
  refine V_aload_n (pc := 5) (i := 0) dX12_miss_5 rfl rfl ?_
  refine V_iload_n (pc := 6) (i := 1) dX12_miss_6 rfl rfl ?_
  refine V_V1i (pc := 7) dX12_miss_7 cX12_384 (by first | assumption | rfl) (X12_isPerson (d := 1) _ (by omega)) (Nat.le_of_ble_eq_true rfl) (by omega) (Nat.le_of_ble_eq_true rfl) ?_
  rw [hp]
  refine V_if_eq (pc := 10) 20 dX12_miss_10 rfl (fun c10 => ?_) (fun c10 => ?_)
  · rw [h1i] at c10; exact absurd c10 (by decide)
  · refine V_iload_n (pc := 13) (i := 2) dX12_miss_13 rfl rfl ?_
    refine V_S1i (pc := 14) dX12_miss_14 cX12_378 (X12_isThing (d := 1) _ (by omega)) (Nat.le_of_ble_eq_true rfl) (by omega) (Nat.le_of_ble_eq_true rfl) ?_
    refine V_if_ne (pc := 17) 26 dX12_miss_17 rfl (fun c17 => ?_) (fun c17 => ?_)
    · refine V_aload_n (pc := 26) (i := 0) dX12_miss_26 rfl rfl ?_
      refine VW_getR (pc := 27) dX12_miss_27 fX12_83 (by first | assumption | rfl) rfl ?_
      refine V_iload_n (pc := 30) (i := 1) dX12_miss_30 rfl rfl ?_
      refine VW_ialdN (pc := 31) dX12_miss_31 (by first | assumption | rfl) rfl (by omega) (by first | decide | omega) ?_
      refine V_iload_n (pc := 32) (i := 2) dX12_miss_32 rfl rfl ?_
      refine V_icmp_ne (pc := 33) 42 dX12_miss_33 rfl (fun c33 => ?_) (fun c33 => ?_)
      · exact absurd hvT c33
      · refine V_aload_n (pc := 36) (i := 0) dX12_miss_36 rfl rfl ?_
        refine V_iconst (pc := 37) (v := 1) dX12_miss_37 (by decide) ?_
        refine V_V1i (pc := 38) dX12_miss_38 cX12_393 (by first | assumption | rfl) (X12_refuse (k := 1) (d := 0) (by decide) hb) (Nat.le_of_ble_eq_true rfl) (by omega) (Nat.le_of_ble_eq_true rfl) ?_
        exact VE_iret (pc := 41) dX12_miss_41 rfl rfl rfl
    · rw [h2i] at c17; exact absurd c17 (by decide)
theorem X12_miss_ok {n pp r bb q t na : Nat} (ci : MI S n pp r bb) (hq : q < pp) (ht : t < 10) (hv : ¬ S 17 q = nI t) (ha : S 0 36 = nI na) (hna : na ≤ 40) (hb : gB G ≤ b) (hd : 3 ≤ d) : VM G mX12_miss d 0 0 [.ref (b + 0), .int (nI q), .int (nI t)] (xE (some (.int (mKeep (up2 S 0 2 0) na 17 q))) (wH G b tbM (up2 (mKeep (up2 S 0 2 0) na) 17 q (nI t)) h0)) (wH G b tbM S h0) := by
  have ciT := ci.cz (j := 2) (x := 0) (by decide)
  have hvT : ¬ up2 S 0 2 0 17 q = nI t := by rw [up2_row (by decide)]; exact hv
  have haT : up2 S 0 2 0 0 36 = nI na := by rw [up2_col (by decide)]; exact ha
  have h8 : pp ≤ 8 := ci.2.2.2.2.1
  refine VM_start (ls := [some (.ref (b + 0)), some (.int (nI q)), some (.int (nI t)), none]) rfl ?_
  -- %m X12_miss
  have h1i : inR (nI q) 0 (nI pp - 1) = true := inR_pp (by omega) (by omega)
  have h2i : inR (nI t) 0 9 = true := inR_ok (l := 0) (m := 9) (by omega) (by omega) (by decide)
  refine V_aload_n (pc := 0) (i := 0) dX12_miss_0 rfl rfl ?_
  refine V_iconst (pc := 1) (v := 0) dX12_miss_1 (by decide) ?_
  refine VW_putI (pc := 2) dX12_miss_2 fX12_139 ftX12 (fpI rfl rfl (tyX12_ok 2 (by decide))) (by first | assumption | rfl) rfl (by assumption) ?_
  generalize up2 S 0 2 0 = T at ciT hvT haT ⊢
  obtain ⟨hn, h12, hg, hp, -⟩ := id ciT
  refine V_aload_n (pc := 5) (i := 0) dX12_miss_5 rfl rfl ?_
  refine V_iload_n (pc := 6) (i := 1) dX12_miss_6 rfl rfl ?_
  refine V_V1i (pc := 7) dX12_miss_7 cX12_384 (by first | assumption | rfl) (X12_isPerson (d := 1) _ (by omega)) (Nat.le_of_ble_eq_true rfl) (by omega) (Nat.le_of_ble_eq_true rfl) ?_
  rw [hp]
  refine V_if_eq (pc := 10) 20 dX12_miss_10 rfl (fun c10 => ?_) (fun c10 => ?_)
  · rw [h1i] at c10; exact absurd c10 (by decide)
  · refine V_iload_n (pc := 13) (i := 2) dX12_miss_13 rfl rfl ?_
    refine V_S1i (pc := 14) dX12_miss_14 cX12_378 (X12_isThing (d := 1) _ (by omega)) (Nat.le_of_ble_eq_true rfl) (by omega) (Nat.le_of_ble_eq_true rfl) ?_
    refine V_if_ne (pc := 17) 26 dX12_miss_17 rfl (fun c17 => ?_) (fun c17 => ?_)
    · refine V_aload_n (pc := 26) (i := 0) dX12_miss_26 rfl rfl ?_
      refine VW_getR (pc := 27) dX12_miss_27 fX12_83 (by first | assumption | rfl) rfl ?_
      refine V_iload_n (pc := 30) (i := 1) dX12_miss_30 rfl rfl ?_
      refine VW_ialdN (pc := 31) dX12_miss_31 (by first | assumption | rfl) rfl (by omega) (by first | decide | omega) ?_
      refine V_iload_n (pc := 32) (i := 2) dX12_miss_32 rfl rfl ?_
      refine V_icmp_ne (pc := 33) 42 dX12_miss_33 rfl (fun c33 => ?_) (fun c33 => ?_)
      · refine V_aload_n (pc := 42) (i := 0) dX12_miss_42 rfl rfl ?_
        refine V_V0v (pc := 43) dX12_miss_43 cX12_396 (by first | assumption | rfl) (X12_keep (d := 1) haT hna hb (by omega)) (Nat.le_of_ble_eq_true rfl) (by omega) (Nat.le_of_ble_eq_true rfl) ?_
        refine V_aload_n (pc := 46) (i := 0) dX12_miss_46 rfl rfl ?_
        refine VW_getR (pc := 47) dX12_miss_47 fX12_83 (by first | assumption | rfl) rfl ?_
        refine V_iload_n (pc := 50) (i := 1) dX12_miss_50 rfl rfl ?_
        refine VW_ialdN (pc := 51) dX12_miss_51 (by first | assumption | rfl) rfl (by omega) (by first | decide | omega) ?_
        refine V_istore_n (pc := 52) (i := 3) dX12_miss_52 rfl (by decide) rfl ?_
        refine V_aload_n (pc := 53) (i := 0) dX12_miss_53 rfl rfl ?_
        refine VW_getR (pc := 54) dX12_miss_54 fX12_83 (by first | assumption | rfl) rfl ?_
        refine V_iload_n (pc := 57) (i := 1) dX12_miss_57 rfl rfl ?_
        refine V_iload_n (pc := 58) (i := 2) dX12_miss_58 rfl rfl ?_
        refine VW_iastN (pc := 59) dX12_miss_59 (by first | assumption | rfl) (by assumption) rfl (by omega) (by first | decide | omega) ?_
        refine V_iload_n (pc := 60) (i := 3) dX12_miss_60 rfl rfl ?_
        exact VE_iret (pc := 61) dX12_miss_61 rfl rfl rfl
      · exact absurd c33 hvT
    · rw [h2i] at c17; exact absurd c17 (by decide)
theorem X12_deny_no {n pp r bb q : Nat} (ci : MI S n pp r bb) (hq : q < n) {v : Int32} (hv : b2i (hasB (S 0 34) (nI q)) = v) (hb : gB G ≤ b) (hd : 3 ≤ d) : VM G mX12_deny d 0 0 [.ref (b + 0), .int (nI q), .int v] (xE (some (.int 0)) (wH G b tbM (up2 (up2 S 0 2 0) 14 1 (up2 S 0 2 0 14 1 + 1)) h0)) (wH G b tbM S h0) := by
  have ciT := ci.cz (j := 2) (x := 0) (by decide)
  have hvT : b2i (hasB (up2 S 0 2 0 0 34) (nI q)) = v := by rw [up2_col (by decide)]; exact hv
  have h12 : n ≤ 12 := ci.2.1
  refine VM_start (ls := [some (.ref (b + 0)), some (.int (nI q)), some (.int v)]) rfl ?_
  -- %m X12_deny
  have h1i : inR (nI q) 0 (nI n - 1) = true := inR_pp (by omega) (by omega)
  refine V_aload_n (pc := 0) (i := 0) dX12_deny_0 rfl rfl ?_
  refine V_iconst (pc := 1) (v := 0) dX12_deny_1 (by decide) ?_
  refine VW_putI (pc := 2) dX12_deny_2 fX12_139 ftX12 (fpI rfl rfl (tyX12_ok 2 (by decide))) (by first | assumption | rfl) rfl (by assumption) ?_
  generalize up2 S 0 2 0 = T at ciT hvT ⊢
  obtain ⟨hn, -, hg, hp, -⟩ := id ciT
  refine V_aload_n (pc := 5) (i := 0) dX12_deny_5 rfl rfl ?_
  refine V_iload_n (pc := 6) (i := 1) dX12_deny_6 rfl rfl ?_
  refine V_V1i (pc := 7) dX12_deny_7 cX12_381 (by first | assumption | rfl) (X12_isIf (d := 1) _ (by omega)) (Nat.le_of_ble_eq_true rfl) (by omega) (Nat.le_of_ble_eq_true rfl) ?_
  rw [hn]
  refine V_if_ne (pc := 10) 19 dX12_deny_10 rfl (fun c10 => ?_) (fun c10 => ?_)
  · refine V_aload_n (pc := 19) (i := 0) dX12_deny_19 rfl rfl ?_
    refine VW_getI (pc := 20) dX12_deny_20 fX12_304 (by first | assumption | rfl) rfl ?_
    refine V_iload_n (pc := 23) (i := 1) dX12_deny_23 rfl rfl ?_
    refine V_S2i (pc := 24) dX12_deny_24 cX12_263 (X12_isOf (d := 0) _ _) (Nat.le_of_ble_eq_true rfl) (by omega) (Nat.le_of_ble_eq_true rfl) ?_
    refine V_iload_n (pc := 27) (i := 2) dX12_deny_27 rfl rfl ?_
    refine V_icmp_ne (pc := 28) 43 dX12_deny_28 rfl (fun c28 => ?_) (fun c28 => ?_)
    · exact absurd hvT c28
    · refine V_aload_n (pc := 31) (i := 0) dX12_deny_31 rfl rfl ?_
      refine VW_getR (pc := 32) dX12_deny_32 fX12_70 (by first | assumption | rfl) rfl ?_
      refine V_iconst (pc := 35) (v := 1) dX12_deny_35 (by decide) ?_
      refine V_dup2 (pc := 36) dX12_deny_36 rfl rfl ?_
      refine VW_ialdN (pc := 37) dX12_deny_37 (by first | assumption | rfl) (j := 1) rfl (by decide) (by first | decide | omega) ?_
      refine V_iconst (pc := 38) (v := 1) dX12_deny_38 (by decide) ?_
      refine V_iadd (pc := 39) dX12_deny_39 ?_
      refine VW_iastN (pc := 40) dX12_deny_40 (by first | assumption | rfl) (by assumption) (j := 1) rfl (by decide) (by first | decide | omega) ?_
      refine V_iconst (pc := 41) (v := 0) dX12_deny_41 (by decide) ?_
      exact VE_zret (pc := 42) dX12_deny_42 rfl (Or.inl rfl) rfl rfl
  · rw [h1i] at c10; exact absurd c10 (by decide)
theorem X12_deny_ok {n pp r bb q na : Nat} (ci : MI S n pp r bb) (hq : q < n) {v : Int32} (hv : ¬ b2i (hasB (S 0 34) (nI q)) = v) (ha : S 0 36 = nI na) (hna : na ≤ 40) (hb : gB G ≤ b) (hd : 3 ≤ d) : VM G mX12_deny d 0 0 [.ref (b + 0), .int (nI q), .int v] (xE (some (.int 1)) (wH G b tbM (up2 (mKeep (up2 S 0 2 0) na) 0 34 (mKeep (up2 S 0 2 0) na 0 34 ^^^ 1 <<< (nI q &&& 31))) h0)) (wH G b tbM S h0) := by
  have ciT := ci.cz (j := 2) (x := 0) (by decide)
  have hvT : ¬ b2i (hasB (up2 S 0 2 0 0 34) (nI q)) = v := by rw [up2_col (by decide)]; exact hv
  have haT : up2 S 0 2 0 0 36 = nI na := by rw [up2_col (by decide)]; exact ha
  have h12 : n ≤ 12 := ci.2.1
  refine VM_start (ls := [some (.ref (b + 0)), some (.int (nI q)), some (.int v)]) rfl ?_
  -- %m X12_deny
  have h1i : inR (nI q) 0 (nI n - 1) = true := inR_pp (by omega) (by omega)
  refine V_aload_n (pc := 0) (i := 0) dX12_deny_0 rfl rfl ?_
  refine V_iconst (pc := 1) (v := 0) dX12_deny_1 (by decide) ?_
  refine VW_putI (pc := 2) dX12_deny_2 fX12_139 ftX12 (fpI rfl rfl (tyX12_ok 2 (by decide))) (by first | assumption | rfl) rfl (by assumption) ?_
  generalize up2 S 0 2 0 = T at ciT hvT haT ⊢
  obtain ⟨hn, -, hg, hp, -⟩ := id ciT
  refine V_aload_n (pc := 5) (i := 0) dX12_deny_5 rfl rfl ?_
  refine V_iload_n (pc := 6) (i := 1) dX12_deny_6 rfl rfl ?_
  refine V_V1i (pc := 7) dX12_deny_7 cX12_381 (by first | assumption | rfl) (X12_isIf (d := 1) _ (by omega)) (Nat.le_of_ble_eq_true rfl) (by omega) (Nat.le_of_ble_eq_true rfl) ?_
  rw [hn]
  refine V_if_ne (pc := 10) 19 dX12_deny_10 rfl (fun c10 => ?_) (fun c10 => ?_)
  · refine V_aload_n (pc := 19) (i := 0) dX12_deny_19 rfl rfl ?_
    refine VW_getI (pc := 20) dX12_deny_20 fX12_304 (by first | assumption | rfl) rfl ?_
    refine V_iload_n (pc := 23) (i := 1) dX12_deny_23 rfl rfl ?_
    refine V_S2i (pc := 24) dX12_deny_24 cX12_263 (X12_isOf (d := 0) _ _) (Nat.le_of_ble_eq_true rfl) (by omega) (Nat.le_of_ble_eq_true rfl) ?_
    refine V_iload_n (pc := 27) (i := 2) dX12_deny_27 rfl rfl ?_
    refine V_icmp_ne (pc := 28) 43 dX12_deny_28 rfl (fun c28 => ?_) (fun c28 => ?_)
    · refine V_aload_n (pc := 43) (i := 0) dX12_deny_43 rfl rfl ?_
      refine V_V0v (pc := 44) dX12_deny_44 cX12_396 (by first | assumption | rfl) (X12_keep (d := 1) haT hna hb (by omega)) (Nat.le_of_ble_eq_true rfl) (by omega) (Nat.le_of_ble_eq_true rfl) ?_
      refine V_aload_n (pc := 47) (i := 0) dX12_deny_47 rfl rfl ?_
      refine V_dup (pc := 48) dX12_deny_48 rfl ?_
      refine VW_getI (pc := 49) dX12_deny_49 fX12_304 (by first | assumption | rfl) rfl ?_
      refine V_iconst (pc := 52) (v := 1) dX12_deny_52 (by decide) ?_
      refine V_iload_n (pc := 53) (i := 1) dX12_deny_53 rfl rfl ?_
      refine V_ishl (pc := 54) dX12_deny_54 ?_
      refine V_ixor (pc := 55) dX12_deny_55 ?_
      refine VW_putI (pc := 56) dX12_deny_56 fX12_304 ftX12 (fpI rfl rfl (tyX12_ok 34 (by decide))) (by first | assumption | rfl) rfl (by assumption) ?_
      refine V_iconst (pc := 59) (v := 1) dX12_deny_59 (by decide) ?_
      exact VE_zret (pc := 60) dX12_deny_60 rfl (Or.inr rfl) rfl rfl
    · exact absurd c28 hvT
  · rw [h1i] at c10; exact absurd c10 (by decide)
theorem X12_sundays_no {x : Int32} (hx : inR x 1 20 = false ∨ 999 < S 0 32 + x) (hb : gB G ≤ b) (hd : 3 ≤ d) : VM G mX12_sundays d 0 0 [.ref (b + 0), .int x] (xE (some (.int (-1))) (wH G b tbM (up2 (up2 S 0 2 0) 14 1 (up2 S 0 2 0 14 1 + 1)) h0)) (wH G b tbM S h0) := by
  refine VM_start (ls := [some (.ref (b + 0)), some (.int x)]) rfl ?_
  -- %m X12_sundays
  refine V_aload_n (pc := 0) (i := 0) dX12_sundays_0 rfl rfl ?_
  refine V_iconst (pc := 1) (v := 0) dX12_sundays_1 (by decide) ?_
  refine VW_putI (pc := 2) dX12_sundays_2 fX12_139 ftX12 (fpI rfl rfl (tyX12_ok 2 (by decide))) (by first | assumption | rfl) rfl (by assumption) ?_
  refine V_iload_n (pc := 5) (i := 1) dX12_sundays_5 rfl rfl ?_
  refine V_i2l (pc := 6) dX12_sundays_6 rfl ?_
  refine V_lconst (pc := 7) (v := 1) dX12_sundays_7 (by decide) ?_
  refine V_ldc2 (pc := 8) dX12_sundays_8 lX12_391 ?_
  refine V_S3i (pc := 11) dX12_sundays_11 cX12_142 (X12_isInC (d := 0) _ (l' := 1) (m' := 20) (by decide) (by decide)) (Nat.le_of_ble_eq_true rfl) (by omega) (Nat.le_of_ble_eq_true rfl) ?_
  refine V_if_eq (pc := 14) 29 dX12_sundays_14 rfl (fun c14 => ?_) (fun c14 => ?_)
  · refine V_aload_n (pc := 29) (i := 0) dX12_sundays_29 rfl rfl ?_
    refine V_iconst (pc := 30) (v := 1) dX12_sundays_30 (by decide) ?_
    refine V_V1i (pc := 31) dX12_sundays_31 cX12_393 (by first | assumption | rfl) (X12_refuse (k := 1) (d := 0) (by decide) hb) (Nat.le_of_ble_eq_true rfl) (by omega) (Nat.le_of_ble_eq_true rfl) ?_
    exact VE_iret (pc := 34) dX12_sundays_34 rfl rfl rfl
  · refine V_aload_n (pc := 17) (i := 0) dX12_sundays_17 rfl rfl ?_
    refine VW_getI (pc := 18) dX12_sundays_18 fX12_300 (by first | assumption | rfl) rfl ?_
    refine V_iload_n (pc := 21) (i := 1) dX12_sundays_21 rfl rfl ?_
    rw [up2_col (by decide)]
    refine V_iadd (pc := 22) dX12_sundays_22 ?_
    refine V_sipush (pc := 23) (v := 999) dX12_sundays_23 (by decide) ?_
    refine V_icmp_le (pc := 26) 35 dX12_sundays_26 rfl (fun c26 => ?_) (fun c26 => ?_)
    · exact hx.elim (fun q => absurd (b2i_n0.mp c14) (by rw [q]; decide)) (fun q => absurd c26 (Int32.not_le.mpr q))
    · refine V_aload_n (pc := 29) (i := 0) dX12_sundays_29 rfl rfl ?_
      refine V_iconst (pc := 30) (v := 1) dX12_sundays_30 (by decide) ?_
      refine V_V1i (pc := 31) dX12_sundays_31 cX12_393 (by first | assumption | rfl) (X12_refuse (k := 1) (d := 0) (by decide) hb) (Nat.le_of_ble_eq_true rfl) (by omega) (Nat.le_of_ble_eq_true rfl) ?_
      exact VE_iret (pc := 34) dX12_sundays_34 rfl rfl rfl
theorem mKeep_off {na k : Nat} (h1 : k ≠ 20) (h2 : k ≠ 0) : mKeep S na k = S k := by
  unfold mKeep
  rw [up2_row h2, upR_row h1]
theorem mKeep_0 {na j : Nat} (h : j ≠ 36) : mKeep S na 0 j = S 0 j := by
  unfold mKeep
  rw [up2_col h, upR_row (by decide)]
theorem mKeep_MI {n pp r bb na : Nat} (ci : MI S n pp r bb) : MI (mKeep S na) n pp r bb := ci.same (fun k h1 h2 => mKeep_off (by omega) (by omega)) (mKeep_0 (by decide))
theorem mKeep_PO {pp na : Nat} (po : PO S pp) : PO (mKeep S na) pp := by
  intro q hq
  rw [mKeep_off (by decide) (by decide), mKeep_off (by decide) (by decide)]
  exact po q hq
theorem X12_sundays_ok {n pp r bb k na : Nat} (ci : MI S n pp r bb) (po : PO S pp) (hk1 : 1 ≤ k) (hk : k ≤ 20) (hk9 : S 0 32 + nI k ≤ 999) (ha : S 0 36 = nI na) (hna : na ≤ 40) (hb : gB G ≤ b) (hd : 9 ≤ d) : VM G mX12_sundays d 0 0 [.ref (b + 0), .int (nI k)] (xE (some (.int (mSunN n r pp bb k (mKeep (up2 S 0 2 0) na) 0 32))) (wH G b tbM (mSunN n r pp bb k (mKeep (up2 S 0 2 0) na)) h0)) (wH G b tbM S h0) := by
  have ciT := ci.cz (j := 2) (x := 0) (by decide)
  have poT := po.cz (j := 2) (x := 0)
  have haT : up2 S 0 2 0 0 36 = nI na := by rw [up2_col (by decide)]; exact ha
  have hkT : up2 S 0 2 0 0 32 + nI k ≤ 999 := by rw [up2_col (by decide)]; exact hk9
  have hin : inR (nI k) 1 20 = true := inR_ok (l := 1) (m := 20) hk1 hk (by decide)
  refine VM_start (ls := [some (.ref (b + 0)), some (.int (nI k))]) rfl ?_
  -- %m X12_sundays
  refine V_aload_n (pc := 0) (i := 0) dX12_sundays_0 rfl rfl ?_
  refine V_iconst (pc := 1) (v := 0) dX12_sundays_1 (by decide) ?_
  refine VW_putI (pc := 2) dX12_sundays_2 fX12_139 ftX12 (fpI rfl rfl (tyX12_ok 2 (by decide))) (by first | assumption | rfl) rfl (by assumption) ?_
  generalize up2 S 0 2 0 = T at ciT poT haT hkT ⊢
  refine V_iload_n (pc := 5) (i := 1) dX12_sundays_5 rfl rfl ?_
  refine V_i2l (pc := 6) dX12_sundays_6 rfl ?_
  refine V_lconst (pc := 7) (v := 1) dX12_sundays_7 (by decide) ?_
  refine V_ldc2 (pc := 8) dX12_sundays_8 lX12_391 ?_
  refine V_S3i (pc := 11) dX12_sundays_11 cX12_142 (X12_isInC (d := 0) _ (l' := 1) (m' := 20) (by decide) (by decide)) (Nat.le_of_ble_eq_true rfl) (by omega) (Nat.le_of_ble_eq_true rfl) ?_
  refine V_if_eq (pc := 14) 29 dX12_sundays_14 rfl (fun c14 => ?_) (fun c14 => ?_)
  · rw [hin] at c14; exact absurd c14 (by decide)
  · refine V_aload_n (pc := 17) (i := 0) dX12_sundays_17 rfl rfl ?_
    refine VW_getI (pc := 18) dX12_sundays_18 fX12_300 (by first | assumption | rfl) rfl ?_
    refine V_iload_n (pc := 21) (i := 1) dX12_sundays_21 rfl rfl ?_
    refine V_iadd (pc := 22) dX12_sundays_22 ?_
    refine V_sipush (pc := 23) (v := 999) dX12_sundays_23 (by decide) ?_
    refine V_icmp_le (pc := 26) 35 dX12_sundays_26 rfl (fun c26 => ?_) (fun c26 => ?_)
    · refine V_aload_n (pc := 35) (i := 0) dX12_sundays_35 rfl rfl ?_
      refine V_V0v (pc := 36) dX12_sundays_36 cX12_396 (by first | assumption | rfl) (X12_keep (d := 1) haT hna hb (by omega)) (Nat.le_of_ble_eq_true rfl) (by omega) (Nat.le_of_ble_eq_true rfl) ?_
      refine V_aload_n (pc := 39) (i := 0) dX12_sundays_39 rfl rfl ?_
      refine V_iload_n (pc := 40) (i := 1) dX12_sundays_40 rfl rfl ?_
      refine V_V1v (pc := 41) dX12_sundays_41 cX12_399 (by first | assumption | rfl) (X12_goOn (d := 8) (mKeep_MI ciT) (mKeep_PO poT) (by omega) hb (by omega)) (Nat.le_of_ble_eq_true rfl) (by omega) (Nat.le_of_ble_eq_true rfl) ?_
      refine V_aload_n (pc := 44) (i := 0) dX12_sundays_44 rfl rfl ?_
      refine VW_getI (pc := 45) dX12_sundays_45 fX12_300 (by first | assumption | rfl) rfl ?_
      exact VE_iret (pc := 48) dX12_sundays_48 rfl rfl rfl
    · exact absurd hkT c26
theorem X12_conditional_0 {n pp r bb q : Nat} (ci : MI S n pp r bb) (hq : q < n) (hb : gB G ≤ b) (hd : 3 ≤ d) : VM G mX12_conditional d 0 0 [.ref (b + 0), .int (nI q), .int 0] (xE (some (.int (up2 S 0 2 0 10 q))) (wH G b tbM (up2 S 0 2 0) h0)) (wH G b tbM S h0) := by
  have ciT := ci.cz (j := 2) (x := 0) (by decide)
  have h12 : n ≤ 12 := ci.2.1
  refine VM_start (ls := [some (.ref (b + 0)), some (.int (nI q)), some (.int 0)]) rfl ?_
  -- %m X12_conditional
  have h1i : inR (nI q) 0 (nI n - 1) = true := inR_pp (by omega) (by omega)
  refine V_aload_n (pc := 0) (i := 0) dX12_conditional_0 rfl rfl ?_
  refine V_iconst (pc := 1) (v := 0) dX12_conditional_1 (by decide) ?_
  refine VW_putI (pc := 2) dX12_conditional_2 fX12_139 ftX12 (fpI rfl rfl (tyX12_ok 2 (by decide))) (by first | assumption | rfl) rfl (by assumption) ?_
  generalize up2 S 0 2 0 = T at ciT ⊢
  obtain ⟨hn, -, hg, hp, -⟩ := id ciT
  refine V_aload_n (pc := 5) (i := 0) dX12_conditional_5 rfl rfl ?_
  refine V_iload_n (pc := 6) (i := 1) dX12_conditional_6 rfl rfl ?_
  refine V_V1i (pc := 7) dX12_conditional_7 cX12_381 (by first | assumption | rfl) (X12_isIf (d := 1) _ (by omega)) (Nat.le_of_ble_eq_true rfl) (by omega) (Nat.le_of_ble_eq_true rfl) ?_
  rw [hn]
  refine V_if_ne (pc := 10) 19 dX12_conditional_10 rfl (fun c10 => ?_) (fun c10 => ?_)
  · refine V_iload_n (pc := 19) (i := 2) dX12_conditional_19 rfl rfl ?_
    refine V_tableIn (pc := 20) (off := 36) 56 dX12_conditional_20 (by decide) (by decide) (by decide) rfl ?_
    refine V_aload_n (pc := 56) (i := 0) dX12_conditional_56 rfl rfl ?_
    refine VW_getR (pc := 57) dX12_conditional_57 fX12_58 (by first | assumption | rfl) rfl ?_
    refine V_iload_n (pc := 60) (i := 1) dX12_conditional_60 rfl rfl ?_
    refine VW_ialdN (pc := 61) dX12_conditional_61 (by first | assumption | rfl) rfl (by omega) (by first | decide | omega) ?_
    exact VE_iret (pc := 62) dX12_conditional_62 rfl rfl rfl
  · rw [h1i] at c10; exact absurd c10 (by decide)
theorem X12_conditional_1 {n pp r bb q : Nat} (ci : MI S n pp r bb) (hq : q < n) (hb : gB G ≤ b) (hd : 3 ≤ d) : VM G mX12_conditional d 0 0 [.ref (b + 0), .int (nI q), .int 1] (xE (some (.int (up2 S 0 2 0 11 q))) (wH G b tbM (up2 S 0 2 0) h0)) (wH G b tbM S h0) := by
  have ciT := ci.cz (j := 2) (x := 0) (by decide)
  have h12 : n ≤ 12 := ci.2.1
  refine VM_start (ls := [some (.ref (b + 0)), some (.int (nI q)), some (.int 1)]) rfl ?_
  -- %m X12_conditional
  have h1i : inR (nI q) 0 (nI n - 1) = true := inR_pp (by omega) (by omega)
  refine V_aload_n (pc := 0) (i := 0) dX12_conditional_0 rfl rfl ?_
  refine V_iconst (pc := 1) (v := 0) dX12_conditional_1 (by decide) ?_
  refine VW_putI (pc := 2) dX12_conditional_2 fX12_139 ftX12 (fpI rfl rfl (tyX12_ok 2 (by decide))) (by first | assumption | rfl) rfl (by assumption) ?_
  generalize up2 S 0 2 0 = T at ciT ⊢
  obtain ⟨hn, -, hg, hp, -⟩ := id ciT
  refine V_aload_n (pc := 5) (i := 0) dX12_conditional_5 rfl rfl ?_
  refine V_iload_n (pc := 6) (i := 1) dX12_conditional_6 rfl rfl ?_
  refine V_V1i (pc := 7) dX12_conditional_7 cX12_381 (by first | assumption | rfl) (X12_isIf (d := 1) _ (by omega)) (Nat.le_of_ble_eq_true rfl) (by omega) (Nat.le_of_ble_eq_true rfl) ?_
  rw [hn]
  refine V_if_ne (pc := 10) 19 dX12_conditional_10 rfl (fun c10 => ?_) (fun c10 => ?_)
  · refine V_iload_n (pc := 19) (i := 2) dX12_conditional_19 rfl rfl ?_
    refine V_tableIn (pc := 20) (off := 43) 63 dX12_conditional_20 (by decide) (by decide) (by decide) rfl ?_
    refine V_aload_n (pc := 63) (i := 0) dX12_conditional_63 rfl rfl ?_
    refine VW_getR (pc := 64) dX12_conditional_64 fX12_61 (by first | assumption | rfl) rfl ?_
    refine V_iload_n (pc := 67) (i := 1) dX12_conditional_67 rfl rfl ?_
    refine VW_ialdN (pc := 68) dX12_conditional_68 (by first | assumption | rfl) rfl (by omega) (by first | decide | omega) ?_
    exact VE_iret (pc := 69) dX12_conditional_69 rfl rfl rfl
  · rw [h1i] at c10; exact absurd c10 (by decide)
theorem X12_conditional_2 {n pp r bb q : Nat} (ci : MI S n pp r bb) (hq : q < n) (hb : gB G ≤ b) (hd : 3 ≤ d) : VM G mX12_conditional d 0 0 [.ref (b + 0), .int (nI q), .int 2] (xE (some (.int (up2 S 0 2 0 12 q))) (wH G b tbM (up2 S 0 2 0) h0)) (wH G b tbM S h0) := by
  have ciT := ci.cz (j := 2) (x := 0) (by decide)
  have h12 : n ≤ 12 := ci.2.1
  refine VM_start (ls := [some (.ref (b + 0)), some (.int (nI q)), some (.int 2)]) rfl ?_
  -- %m X12_conditional
  have h1i : inR (nI q) 0 (nI n - 1) = true := inR_pp (by omega) (by omega)
  refine V_aload_n (pc := 0) (i := 0) dX12_conditional_0 rfl rfl ?_
  refine V_iconst (pc := 1) (v := 0) dX12_conditional_1 (by decide) ?_
  refine VW_putI (pc := 2) dX12_conditional_2 fX12_139 ftX12 (fpI rfl rfl (tyX12_ok 2 (by decide))) (by first | assumption | rfl) rfl (by assumption) ?_
  generalize up2 S 0 2 0 = T at ciT ⊢
  obtain ⟨hn, -, hg, hp, -⟩ := id ciT
  refine V_aload_n (pc := 5) (i := 0) dX12_conditional_5 rfl rfl ?_
  refine V_iload_n (pc := 6) (i := 1) dX12_conditional_6 rfl rfl ?_
  refine V_V1i (pc := 7) dX12_conditional_7 cX12_381 (by first | assumption | rfl) (X12_isIf (d := 1) _ (by omega)) (Nat.le_of_ble_eq_true rfl) (by omega) (Nat.le_of_ble_eq_true rfl) ?_
  rw [hn]
  refine V_if_ne (pc := 10) 19 dX12_conditional_10 rfl (fun c10 => ?_) (fun c10 => ?_)
  · refine V_iload_n (pc := 19) (i := 2) dX12_conditional_19 rfl rfl ?_
    refine V_tableIn (pc := 20) (off := 50) 70 dX12_conditional_20 (by decide) (by decide) (by decide) rfl ?_
    refine V_aload_n (pc := 70) (i := 0) dX12_conditional_70 rfl rfl ?_
    refine VW_getR (pc := 71) dX12_conditional_71 fX12_64 (by first | assumption | rfl) rfl ?_
    refine V_iload_n (pc := 74) (i := 1) dX12_conditional_74 rfl rfl ?_
    refine VW_ialdN (pc := 75) dX12_conditional_75 (by first | assumption | rfl) rfl (by omega) (by first | decide | omega) ?_
    exact VE_iret (pc := 76) dX12_conditional_76 rfl rfl rfl
  · rw [h1i] at c10; exact absurd c10 (by decide)
theorem X12_conditional_3 {n pp r bb q : Nat} (ci : MI S n pp r bb) (hq : q < n) (hb : gB G ≤ b) (hd : 3 ≤ d) : VM G mX12_conditional d 0 0 [.ref (b + 0), .int (nI q), .int 3] (xE (some (.int (up2 S 0 2 0 9 q))) (wH G b tbM (up2 S 0 2 0) h0)) (wH G b tbM S h0) := by
  have ciT := ci.cz (j := 2) (x := 0) (by decide)
  have h12 : n ≤ 12 := ci.2.1
  refine VM_start (ls := [some (.ref (b + 0)), some (.int (nI q)), some (.int 3)]) rfl ?_
  -- %m X12_conditional
  have h1i : inR (nI q) 0 (nI n - 1) = true := inR_pp (by omega) (by omega)
  refine V_aload_n (pc := 0) (i := 0) dX12_conditional_0 rfl rfl ?_
  refine V_iconst (pc := 1) (v := 0) dX12_conditional_1 (by decide) ?_
  refine VW_putI (pc := 2) dX12_conditional_2 fX12_139 ftX12 (fpI rfl rfl (tyX12_ok 2 (by decide))) (by first | assumption | rfl) rfl (by assumption) ?_
  generalize up2 S 0 2 0 = T at ciT ⊢
  obtain ⟨hn, -, hg, hp, -⟩ := id ciT
  refine V_aload_n (pc := 5) (i := 0) dX12_conditional_5 rfl rfl ?_
  refine V_iload_n (pc := 6) (i := 1) dX12_conditional_6 rfl rfl ?_
  refine V_V1i (pc := 7) dX12_conditional_7 cX12_381 (by first | assumption | rfl) (X12_isIf (d := 1) _ (by omega)) (Nat.le_of_ble_eq_true rfl) (by omega) (Nat.le_of_ble_eq_true rfl) ?_
  rw [hn]
  refine V_if_ne (pc := 10) 19 dX12_conditional_10 rfl (fun c10 => ?_) (fun c10 => ?_)
  · refine V_iload_n (pc := 19) (i := 2) dX12_conditional_19 rfl rfl ?_
    refine V_tableIn (pc := 20) (off := 57) 77 dX12_conditional_20 (by decide) (by decide) (by decide) rfl ?_
    refine V_aload_n (pc := 77) (i := 0) dX12_conditional_77 rfl rfl ?_
    refine VW_getR (pc := 78) dX12_conditional_78 fX12_55 (by first | assumption | rfl) rfl ?_
    refine V_iload_n (pc := 81) (i := 1) dX12_conditional_81 rfl rfl ?_
    refine VW_ialdN (pc := 82) dX12_conditional_82 (by first | assumption | rfl) rfl (by omega) (by first | decide | omega) ?_
    exact VE_iret (pc := 83) dX12_conditional_83 rfl rfl rfl
  · rw [h1i] at c10; exact absurd c10 (by decide)
theorem X12_conditional_4 {n pp r bb q : Nat} (ci : MI S n pp r bb) (hq : q < n) (hb : gB G ≤ b) (hd : 3 ≤ d) : VM G mX12_conditional d 0 0 [.ref (b + 0), .int (nI q), .int 4] (xE (some (.int (b2i (hasB (up2 S 0 2 0 0 34) (nI q))))) (wH G b tbM (up2 S 0 2 0) h0)) (wH G b tbM S h0) := by
  have ciT := ci.cz (j := 2) (x := 0) (by decide)
  have h12 : n ≤ 12 := ci.2.1
  refine VM_start (ls := [some (.ref (b + 0)), some (.int (nI q)), some (.int 4)]) rfl ?_
  -- %m X12_conditional
  have h1i : inR (nI q) 0 (nI n - 1) = true := inR_pp (by omega) (by omega)
  refine V_aload_n (pc := 0) (i := 0) dX12_conditional_0 rfl rfl ?_
  refine V_iconst (pc := 1) (v := 0) dX12_conditional_1 (by decide) ?_
  refine VW_putI (pc := 2) dX12_conditional_2 fX12_139 ftX12 (fpI rfl rfl (tyX12_ok 2 (by decide))) (by first | assumption | rfl) rfl (by assumption) ?_
  generalize up2 S 0 2 0 = T at ciT ⊢
  obtain ⟨hn, -, hg, hp, -⟩ := id ciT
  refine V_aload_n (pc := 5) (i := 0) dX12_conditional_5 rfl rfl ?_
  refine V_iload_n (pc := 6) (i := 1) dX12_conditional_6 rfl rfl ?_
  refine V_V1i (pc := 7) dX12_conditional_7 cX12_381 (by first | assumption | rfl) (X12_isIf (d := 1) _ (by omega)) (Nat.le_of_ble_eq_true rfl) (by omega) (Nat.le_of_ble_eq_true rfl) ?_
  rw [hn]
  refine V_if_ne (pc := 10) 19 dX12_conditional_10 rfl (fun c10 => ?_) (fun c10 => ?_)
  · refine V_iload_n (pc := 19) (i := 2) dX12_conditional_19 rfl rfl ?_
    refine V_tableIn (pc := 20) (off := 64) 84 dX12_conditional_20 (by decide) (by decide) (by decide) rfl ?_
    refine V_aload_n (pc := 84) (i := 0) dX12_conditional_84 rfl rfl ?_
    refine VW_getI (pc := 85) dX12_conditional_85 fX12_304 (by first | assumption | rfl) rfl ?_
    refine V_iload_n (pc := 88) (i := 1) dX12_conditional_88 rfl rfl ?_
    refine V_ishr (pc := 89) dX12_conditional_89 ?_
    refine V_iconst (pc := 90) (v := 1) dX12_conditional_90 (by decide) ?_
    refine V_iand (pc := 91) dX12_conditional_91 ?_
    rw [shr1]
    exact VE_iret (pc := 92) dX12_conditional_92 rfl rfl rfl
  · rw [h1i] at c10; exact absurd c10 (by decide)
theorem sw_out {x : Int32} {k : Nat} (hk : k < 2 ^ 31) (hx : x < 0 ∨ nI k < x) : x.toInt < 0 ∨ (k : Int) < x.toInt := by
  rcases hx with h | h
  · exact Or.inl (Int32.lt_iff_toInt_lt.mp h)
  · exact Or.inr (by have := Int32.lt_iff_toInt_lt.mp h; rwa [nI_toInt hk] at this)
theorem X12_conditional_bad2 {n pp r bb q : Nat} {x : Int32} (ci : MI S n pp r bb) (hq : q < n) (hx : x < 0 ∨ nI 4 < x) (hb : gB G ≤ b) (hd : 3 ≤ d) : VM G mX12_conditional d 0 0 [.ref (b + 0), .int (nI q), .int x] (xE (some (.int 0)) (wH G b tbM (up2 (up2 S 0 2 0) 0 2 1) h0)) (wH G b tbM S h0) := by
  have ciT := ci.cz (j := 2) (x := 0) (by decide)
  have h12 : n ≤ 12 := ci.2.1
  refine VM_start (ls := [some (.ref (b + 0)), some (.int (nI q)), some (.int x)]) rfl ?_
  -- %m X12_conditional
  have h1i : inR (nI q) 0 (nI n - 1) = true := inR_pp (by omega) (by omega)
  refine V_aload_n (pc := 0) (i := 0) dX12_conditional_0 rfl rfl ?_
  refine V_iconst (pc := 1) (v := 0) dX12_conditional_1 (by decide) ?_
  refine VW_putI (pc := 2) dX12_conditional_2 fX12_139 ftX12 (fpI rfl rfl (tyX12_ok 2 (by decide))) (by first | assumption | rfl) rfl (by assumption) ?_
  generalize up2 S 0 2 0 = T at ciT ⊢
  obtain ⟨hn, -, hg, hp, -⟩ := id ciT
  refine V_aload_n (pc := 5) (i := 0) dX12_conditional_5 rfl rfl ?_
  refine V_iload_n (pc := 6) (i := 1) dX12_conditional_6 rfl rfl ?_
  refine V_V1i (pc := 7) dX12_conditional_7 cX12_381 (by first | assumption | rfl) (X12_isIf (d := 1) _ (by omega)) (Nat.le_of_ble_eq_true rfl) (by omega) (Nat.le_of_ble_eq_true rfl) ?_
  rw [hn]
  refine V_if_ne (pc := 10) 19 dX12_conditional_10 rfl (fun c10 => ?_) (fun c10 => ?_)
  · refine V_iload_n (pc := 19) (i := 2) dX12_conditional_19 rfl rfl ?_
    refine V_tableOut (pc := 20) 93 dX12_conditional_20 (sw_out (k := 4) (by decide) hx) rfl ?_
    refine V_aload_n (pc := 93) (i := 0) dX12_conditional_93 rfl rfl ?_
    refine V_iconst (pc := 94) (v := 1) dX12_conditional_94 (by decide) ?_
    refine V_V1i (pc := 95) dX12_conditional_95 cX12_287 (by first | assumption | rfl) (X12_fail (d := 0) 1 hb) (Nat.le_of_ble_eq_true rfl) (by omega) (Nat.le_of_ble_eq_true rfl) ?_
    exact VE_iret (pc := 98) dX12_conditional_98 rfl rfl rfl
  · rw [h1i] at c10; exact absurd c10 (by decide)
theorem X12_person_0 {n pp r bb q : Nat} (ci : MI S n pp r bb) (hq : q < pp) (hb : gB G ≤ b) (hd : 6 ≤ d) : VM G mX12_person d 0 0 [.ref (b + 0), .int (nI q), .int 0] (xE (some (.int (up2 S 0 2 0 16 q))) (wH G b tbM (up2 S 0 2 0) h0)) (wH G b tbM S h0) := by
  have ciT := ci.cz (j := 2) (x := 0) (by decide)
  have h8 : pp ≤ 8 := ci.2.2.2.2.1
  refine VM_start (ls := [some (.ref (b + 0)), some (.int (nI q)), some (.int 0)]) rfl ?_
  -- %m X12_person
  have h1i : inR (nI q) 0 (nI pp - 1) = true := inR_pp (by omega) (by omega)
  refine V_aload_n (pc := 0) (i := 0) dX12_person_0 rfl rfl ?_
  refine V_iconst (pc := 1) (v := 0) dX12_person_1 (by decide) ?_
  refine VW_putI (pc := 2) dX12_person_2 fX12_139 ftX12 (fpI rfl rfl (tyX12_ok 2 (by decide))) (by first | assumption | rfl) rfl (by assumption) ?_
  generalize up2 S 0 2 0 = T at ciT ⊢
  obtain ⟨hn, h12, hg, hp, -⟩ := id ciT
  refine V_aload_n (pc := 5) (i := 0) dX12_person_5 rfl rfl ?_
  refine V_iload_n (pc := 6) (i := 1) dX12_person_6 rfl rfl ?_
  refine V_V1i (pc := 7) dX12_person_7 cX12_384 (by first | assumption | rfl) (X12_isPerson (d := 1) _ (by omega)) (Nat.le_of_ble_eq_true rfl) (by omega) (Nat.le_of_ble_eq_true rfl) ?_
  rw [hp]
  refine V_if_ne (pc := 10) 19 dX12_person_10 rfl (fun c10 => ?_) (fun c10 => ?_)
  · refine V_iload_n (pc := 19) (i := 2) dX12_person_19 rfl rfl ?_
    refine V_tableIn (pc := 20) (off := 48) 68 dX12_person_20 (by decide) (by decide) (by decide) rfl ?_
    refine V_aload_n (pc := 68) (i := 0) dX12_person_68 rfl rfl ?_
    refine VW_getR (pc := 69) dX12_person_69 fX12_80 (by first | assumption | rfl) rfl ?_
    refine V_iload_n (pc := 72) (i := 1) dX12_person_72 rfl rfl ?_
    refine VW_ialdN (pc := 73) dX12_person_73 (by first | assumption | rfl) rfl (by omega) (by first | decide | omega) ?_
    exact VE_iret (pc := 74) dX12_person_74 rfl rfl rfl
  · rw [h1i] at c10; exact absurd c10 (by decide)
theorem X12_person_1 {n pp r bb q : Nat} (ci : MI S n pp r bb) (hq : q < pp) (hb : gB G ≤ b) (hd : 6 ≤ d) : VM G mX12_person d 0 0 [.ref (b + 0), .int (nI q), .int 1] (xE (some (.int (up2 S 0 2 0 17 q))) (wH G b tbM (up2 S 0 2 0) h0)) (wH G b tbM S h0) := by
  have ciT := ci.cz (j := 2) (x := 0) (by decide)
  have h8 : pp ≤ 8 := ci.2.2.2.2.1
  refine VM_start (ls := [some (.ref (b + 0)), some (.int (nI q)), some (.int 1)]) rfl ?_
  -- %m X12_person
  have h1i : inR (nI q) 0 (nI pp - 1) = true := inR_pp (by omega) (by omega)
  refine V_aload_n (pc := 0) (i := 0) dX12_person_0 rfl rfl ?_
  refine V_iconst (pc := 1) (v := 0) dX12_person_1 (by decide) ?_
  refine VW_putI (pc := 2) dX12_person_2 fX12_139 ftX12 (fpI rfl rfl (tyX12_ok 2 (by decide))) (by first | assumption | rfl) rfl (by assumption) ?_
  generalize up2 S 0 2 0 = T at ciT ⊢
  obtain ⟨hn, h12, hg, hp, -⟩ := id ciT
  refine V_aload_n (pc := 5) (i := 0) dX12_person_5 rfl rfl ?_
  refine V_iload_n (pc := 6) (i := 1) dX12_person_6 rfl rfl ?_
  refine V_V1i (pc := 7) dX12_person_7 cX12_384 (by first | assumption | rfl) (X12_isPerson (d := 1) _ (by omega)) (Nat.le_of_ble_eq_true rfl) (by omega) (Nat.le_of_ble_eq_true rfl) ?_
  rw [hp]
  refine V_if_ne (pc := 10) 19 dX12_person_10 rfl (fun c10 => ?_) (fun c10 => ?_)
  · refine V_iload_n (pc := 19) (i := 2) dX12_person_19 rfl rfl ?_
    refine V_tableIn (pc := 20) (off := 55) 75 dX12_person_20 (by decide) (by decide) (by decide) rfl ?_
    refine V_aload_n (pc := 75) (i := 0) dX12_person_75 rfl rfl ?_
    refine VW_getR (pc := 76) dX12_person_76 fX12_83 (by first | assumption | rfl) rfl ?_
    refine V_iload_n (pc := 79) (i := 1) dX12_person_79 rfl rfl ?_
    refine VW_ialdN (pc := 80) dX12_person_80 (by first | assumption | rfl) rfl (by omega) (by first | decide | omega) ?_
    exact VE_iret (pc := 81) dX12_person_81 rfl rfl rfl
  · rw [h1i] at c10; exact absurd c10 (by decide)
theorem X12_person_2 {n pp r bb q : Nat} (ci : MI S n pp r bb) (hq : q < pp) (hb : gB G ≤ b) (hd : 6 ≤ d) : VM G mX12_person d 0 0 [.ref (b + 0), .int (nI q), .int 2] (xE (some (.int (up2 S 0 2 0 7 q))) (wH G b tbM (up2 S 0 2 0) h0)) (wH G b tbM S h0) := by
  have ciT := ci.cz (j := 2) (x := 0) (by decide)
  have h8 : pp ≤ 8 := ci.2.2.2.2.1
  refine VM_start (ls := [some (.ref (b + 0)), some (.int (nI q)), some (.int 2)]) rfl ?_
  -- %m X12_person
  have h1i : inR (nI q) 0 (nI pp - 1) = true := inR_pp (by omega) (by omega)
  refine V_aload_n (pc := 0) (i := 0) dX12_person_0 rfl rfl ?_
  refine V_iconst (pc := 1) (v := 0) dX12_person_1 (by decide) ?_
  refine VW_putI (pc := 2) dX12_person_2 fX12_139 ftX12 (fpI rfl rfl (tyX12_ok 2 (by decide))) (by first | assumption | rfl) rfl (by assumption) ?_
  generalize up2 S 0 2 0 = T at ciT ⊢
  obtain ⟨hn, h12, hg, hp, -⟩ := id ciT
  refine V_aload_n (pc := 5) (i := 0) dX12_person_5 rfl rfl ?_
  refine V_iload_n (pc := 6) (i := 1) dX12_person_6 rfl rfl ?_
  refine V_V1i (pc := 7) dX12_person_7 cX12_384 (by first | assumption | rfl) (X12_isPerson (d := 1) _ (by omega)) (Nat.le_of_ble_eq_true rfl) (by omega) (Nat.le_of_ble_eq_true rfl) ?_
  rw [hp]
  refine V_if_ne (pc := 10) 19 dX12_person_10 rfl (fun c10 => ?_) (fun c10 => ?_)
  · refine V_iload_n (pc := 19) (i := 2) dX12_person_19 rfl rfl ?_
    refine V_tableIn (pc := 20) (off := 62) 82 dX12_person_20 (by decide) (by decide) (by decide) rfl ?_
    refine V_aload_n (pc := 82) (i := 0) dX12_person_82 rfl rfl ?_
    refine VW_getR (pc := 83) dX12_person_83 fX12_49 (by first | assumption | rfl) rfl ?_
    refine V_iload_n (pc := 86) (i := 1) dX12_person_86 rfl rfl ?_
    refine VW_ialdN (pc := 87) dX12_person_87 (by first | assumption | rfl) rfl (by omega) (by first | decide | omega) ?_
    exact VE_iret (pc := 88) dX12_person_88 rfl rfl rfl
  · rw [h1i] at c10; exact absurd c10 (by decide)
theorem X12_person_3 {n pp r bb q : Nat} (ci : MI S n pp r bb) (hq : q < pp) (hb : gB G ≤ b) (hd : 6 ≤ d) : VM G mX12_person d 0 0 [.ref (b + 0), .int (nI q), .int 3] (xE (some (.int (up2 S 0 2 0 18 q))) (wH G b tbM (up2 S 0 2 0) h0)) (wH G b tbM S h0) := by
  have ciT := ci.cz (j := 2) (x := 0) (by decide)
  have h8 : pp ≤ 8 := ci.2.2.2.2.1
  refine VM_start (ls := [some (.ref (b + 0)), some (.int (nI q)), some (.int 3)]) rfl ?_
  -- %m X12_person
  have h1i : inR (nI q) 0 (nI pp - 1) = true := inR_pp (by omega) (by omega)
  refine V_aload_n (pc := 0) (i := 0) dX12_person_0 rfl rfl ?_
  refine V_iconst (pc := 1) (v := 0) dX12_person_1 (by decide) ?_
  refine VW_putI (pc := 2) dX12_person_2 fX12_139 ftX12 (fpI rfl rfl (tyX12_ok 2 (by decide))) (by first | assumption | rfl) rfl (by assumption) ?_
  generalize up2 S 0 2 0 = T at ciT ⊢
  obtain ⟨hn, h12, hg, hp, -⟩ := id ciT
  refine V_aload_n (pc := 5) (i := 0) dX12_person_5 rfl rfl ?_
  refine V_iload_n (pc := 6) (i := 1) dX12_person_6 rfl rfl ?_
  refine V_V1i (pc := 7) dX12_person_7 cX12_384 (by first | assumption | rfl) (X12_isPerson (d := 1) _ (by omega)) (Nat.le_of_ble_eq_true rfl) (by omega) (Nat.le_of_ble_eq_true rfl) ?_
  rw [hp]
  refine V_if_ne (pc := 10) 19 dX12_person_10 rfl (fun c10 => ?_) (fun c10 => ?_)
  · refine V_iload_n (pc := 19) (i := 2) dX12_person_19 rfl rfl ?_
    refine V_tableIn (pc := 20) (off := 69) 89 dX12_person_20 (by decide) (by decide) (by decide) rfl ?_
    refine V_aload_n (pc := 89) (i := 0) dX12_person_89 rfl rfl ?_
    refine VW_getR (pc := 90) dX12_person_90 fX12_86 (by first | assumption | rfl) rfl ?_
    refine V_iload_n (pc := 93) (i := 1) dX12_person_93 rfl rfl ?_
    refine VW_ialdN (pc := 94) dX12_person_94 (by first | assumption | rfl) rfl (by omega) (by first | decide | omega) ?_
    exact VE_iret (pc := 95) dX12_person_95 rfl rfl rfl
  · rw [h1i] at c10; exact absurd c10 (by decide)
theorem X12_person_4 {n pp r bb q : Nat} (ci : MI S n pp r bb) (hq : q < pp) (hb : gB G ≤ b) (hd : 6 ≤ d) : VM G mX12_person d 0 0 [.ref (b + 0), .int (nI q), .int 4] (xE (some (.int (up2 S 0 2 0 19 q))) (wH G b tbM (up2 S 0 2 0) h0)) (wH G b tbM S h0) := by
  have ciT := ci.cz (j := 2) (x := 0) (by decide)
  have h8 : pp ≤ 8 := ci.2.2.2.2.1
  refine VM_start (ls := [some (.ref (b + 0)), some (.int (nI q)), some (.int 4)]) rfl ?_
  -- %m X12_person
  have h1i : inR (nI q) 0 (nI pp - 1) = true := inR_pp (by omega) (by omega)
  refine V_aload_n (pc := 0) (i := 0) dX12_person_0 rfl rfl ?_
  refine V_iconst (pc := 1) (v := 0) dX12_person_1 (by decide) ?_
  refine VW_putI (pc := 2) dX12_person_2 fX12_139 ftX12 (fpI rfl rfl (tyX12_ok 2 (by decide))) (by first | assumption | rfl) rfl (by assumption) ?_
  generalize up2 S 0 2 0 = T at ciT ⊢
  obtain ⟨hn, h12, hg, hp, -⟩ := id ciT
  refine V_aload_n (pc := 5) (i := 0) dX12_person_5 rfl rfl ?_
  refine V_iload_n (pc := 6) (i := 1) dX12_person_6 rfl rfl ?_
  refine V_V1i (pc := 7) dX12_person_7 cX12_384 (by first | assumption | rfl) (X12_isPerson (d := 1) _ (by omega)) (Nat.le_of_ble_eq_true rfl) (by omega) (Nat.le_of_ble_eq_true rfl) ?_
  rw [hp]
  refine V_if_ne (pc := 10) 19 dX12_person_10 rfl (fun c10 => ?_) (fun c10 => ?_)
  · refine V_iload_n (pc := 19) (i := 2) dX12_person_19 rfl rfl ?_
    refine V_tableIn (pc := 20) (off := 76) 96 dX12_person_20 (by decide) (by decide) (by decide) rfl ?_
    refine V_aload_n (pc := 96) (i := 0) dX12_person_96 rfl rfl ?_
    refine VW_getR (pc := 97) dX12_person_97 fX12_88 (by first | assumption | rfl) rfl ?_
    refine V_iload_n (pc := 100) (i := 1) dX12_person_100 rfl rfl ?_
    refine VW_ialdN (pc := 101) dX12_person_101 (by first | assumption | rfl) rfl (by omega) (by first | decide | omega) ?_
    exact VE_iret (pc := 102) dX12_person_102 rfl rfl rfl
  · rw [h1i] at c10; exact absurd c10 (by decide)
theorem X12_person_5 {n pp r bb q : Nat} (ci : MI S n pp r bb) (hq : q < pp) (hb : gB G ≤ b) (hd : 6 ≤ d) : VM G mX12_person d 0 0 [.ref (b + 0), .int (nI q), .int 5] (xE (some (.int (mThere (up2 S 0 2 0) n q))) (wH G b tbM (up2 S 0 2 0) h0)) (wH G b tbM S h0) := by
  have ciT := ci.cz (j := 2) (x := 0) (by decide)
  have h8 : pp ≤ 8 := ci.2.2.2.2.1
  refine VM_start (ls := [some (.ref (b + 0)), some (.int (nI q)), some (.int 5)]) rfl ?_
  -- %m X12_person
  have h1i : inR (nI q) 0 (nI pp - 1) = true := inR_pp (by omega) (by omega)
  refine V_aload_n (pc := 0) (i := 0) dX12_person_0 rfl rfl ?_
  refine V_iconst (pc := 1) (v := 0) dX12_person_1 (by decide) ?_
  refine VW_putI (pc := 2) dX12_person_2 fX12_139 ftX12 (fpI rfl rfl (tyX12_ok 2 (by decide))) (by first | assumption | rfl) rfl (by assumption) ?_
  generalize up2 S 0 2 0 = T at ciT ⊢
  obtain ⟨hn, h12, hg, hp, -⟩ := id ciT
  refine V_aload_n (pc := 5) (i := 0) dX12_person_5 rfl rfl ?_
  refine V_iload_n (pc := 6) (i := 1) dX12_person_6 rfl rfl ?_
  refine V_V1i (pc := 7) dX12_person_7 cX12_384 (by first | assumption | rfl) (X12_isPerson (d := 1) _ (by omega)) (Nat.le_of_ble_eq_true rfl) (by omega) (Nat.le_of_ble_eq_true rfl) ?_
  rw [hp]
  refine V_if_ne (pc := 10) 19 dX12_person_10 rfl (fun c10 => ?_) (fun c10 => ?_)
  · refine V_iload_n (pc := 19) (i := 2) dX12_person_19 rfl rfl ?_
    refine V_tableIn (pc := 20) (off := 83) 103 dX12_person_20 (by decide) (by decide) (by decide) rfl ?_
    refine V_aload_n (pc := 103) (i := 0) dX12_person_103 rfl rfl ?_
    refine V_iload_n (pc := 104) (i := 1) dX12_person_104 rfl rfl ?_
    refine V_V1i (pc := 105) dX12_person_105 cX12_333 (by first | assumption | rfl) (X12_thereOf (d := 4) hn h12 hg (by omega) (by omega)) (Nat.le_of_ble_eq_true rfl) (by omega) (Nat.le_of_ble_eq_true rfl) ?_
    exact VE_iret (pc := 108) dX12_person_108 rfl rfl rfl
  · rw [h1i] at c10; exact absurd c10 (by decide)
theorem X12_person_6 {n pp r bb q : Nat} (ci : MI S n pp r bb) (hq : q < pp) (hb : gB G ≤ b) (hd : 6 ≤ d) : VM G mX12_person d 0 0 [.ref (b + 0), .int (nI q), .int 6] (xE (some (.int (mSpare (up2 S 0 2 0) n q))) (wH G b tbM (up2 S 0 2 0) h0)) (wH G b tbM S h0) := by
  have ciT := ci.cz (j := 2) (x := 0) (by decide)
  have h8 : pp ≤ 8 := ci.2.2.2.2.1
  refine VM_start (ls := [some (.ref (b + 0)), some (.int (nI q)), some (.int 6)]) rfl ?_
  -- %m X12_person
  have h1i : inR (nI q) 0 (nI pp - 1) = true := inR_pp (by omega) (by omega)
  refine V_aload_n (pc := 0) (i := 0) dX12_person_0 rfl rfl ?_
  refine V_iconst (pc := 1) (v := 0) dX12_person_1 (by decide) ?_
  refine VW_putI (pc := 2) dX12_person_2 fX12_139 ftX12 (fpI rfl rfl (tyX12_ok 2 (by decide))) (by first | assumption | rfl) rfl (by assumption) ?_
  generalize up2 S 0 2 0 = T at ciT ⊢
  obtain ⟨hn, h12, hg, hp, -⟩ := id ciT
  refine V_aload_n (pc := 5) (i := 0) dX12_person_5 rfl rfl ?_
  refine V_iload_n (pc := 6) (i := 1) dX12_person_6 rfl rfl ?_
  refine V_V1i (pc := 7) dX12_person_7 cX12_384 (by first | assumption | rfl) (X12_isPerson (d := 1) _ (by omega)) (Nat.le_of_ble_eq_true rfl) (by omega) (Nat.le_of_ble_eq_true rfl) ?_
  rw [hp]
  refine V_if_ne (pc := 10) 19 dX12_person_10 rfl (fun c10 => ?_) (fun c10 => ?_)
  · refine V_iload_n (pc := 19) (i := 2) dX12_person_19 rfl rfl ?_
    refine V_tableIn (pc := 20) (off := 89) 109 dX12_person_20 (by decide) (by decide) (by decide) rfl ?_
    refine V_aload_n (pc := 109) (i := 0) dX12_person_109 rfl rfl ?_
    refine V_iload_n (pc := 110) (i := 1) dX12_person_110 rfl rfl ?_
    refine V_V1i (pc := 111) dX12_person_111 cX12_336 (by first | assumption | rfl) (X12_sparedOf (d := 4) hn h12 hg (by omega) (by omega)) (Nat.le_of_ble_eq_true rfl) (by omega) (Nat.le_of_ble_eq_true rfl) ?_
    exact VE_iret (pc := 114) dX12_person_114 rfl rfl rfl
  · rw [h1i] at c10; exact absurd c10 (by decide)
theorem X12_person_7 {n pp r bb q : Nat} (ci : MI S n pp r bb) (hq : q < pp) (hb : gB G ≤ b) (hd : 6 ≤ d) : VM G mX12_person d 0 0 [.ref (b + 0), .int (nI q), .int 7] (xE (some (.int (b2i (mWants (up2 S 0 2 0) n r q).1))) (wH G b tbM (mWants (up2 S 0 2 0) n r q).2 h0)) (wH G b tbM S h0) := by
  have ciT := ci.cz (j := 2) (x := 0) (by decide)
  have h8 : pp ≤ 8 := ci.2.2.2.2.1
  refine VM_start (ls := [some (.ref (b + 0)), some (.int (nI q)), some (.int 7)]) rfl ?_
  -- %m X12_person
  have h1i : inR (nI q) 0 (nI pp - 1) = true := inR_pp (by omega) (by omega)
  refine V_aload_n (pc := 0) (i := 0) dX12_person_0 rfl rfl ?_
  refine V_iconst (pc := 1) (v := 0) dX12_person_1 (by decide) ?_
  refine VW_putI (pc := 2) dX12_person_2 fX12_139 ftX12 (fpI rfl rfl (tyX12_ok 2 (by decide))) (by first | assumption | rfl) rfl (by assumption) ?_
  generalize up2 S 0 2 0 = T at ciT ⊢
  obtain ⟨hn, h12, hg, hp, -⟩ := id ciT
  refine V_aload_n (pc := 5) (i := 0) dX12_person_5 rfl rfl ?_
  refine V_iload_n (pc := 6) (i := 1) dX12_person_6 rfl rfl ?_
  refine V_V1i (pc := 7) dX12_person_7 cX12_384 (by first | assumption | rfl) (X12_isPerson (d := 1) _ (by omega)) (Nat.le_of_ble_eq_true rfl) (by omega) (Nat.le_of_ble_eq_true rfl) ?_
  rw [hp]
  refine V_if_ne (pc := 10) 19 dX12_person_10 rfl (fun c10 => ?_) (fun c10 => ?_)
  · refine V_iload_n (pc := 19) (i := 2) dX12_person_19 rfl rfl ?_
    refine V_tableIn (pc := 20) (off := 95) 115 dX12_person_20 (by decide) (by decide) (by decide) rfl ?_
    refine V_aload_n (pc := 115) (i := 0) dX12_person_115 rfl rfl ?_
    refine V_iload_n (pc := 116) (i := 1) dX12_person_116 rfl rfl ?_
    refine V_V1i (pc := 117) dX12_person_117 cX12_342 (by first | assumption | rfl) (X12_wants (d := 5) ciT (by omega) hb (by omega)) (Nat.le_of_ble_eq_true rfl) (by omega) (Nat.le_of_ble_eq_true rfl) ?_
    refine V_if_eq (pc := 120) 127 dX12_person_120 rfl (fun c120 => ?_) (fun c120 => ?_)
    · rw [b2i_0.mp c120]
      refine V_iconst (pc := 127) (v := 0) dX12_person_127 (by decide) ?_
      exact VE_iret (pc := 128) dX12_person_128 rfl rfl rfl
    · rw [b2i_n0.mp c120]
      refine V_iconst (pc := 123) (v := 1) dX12_person_123 (by decide) ?_
      refine V_goto (pc := 124) 128 dX12_person_124 rfl ?_
      exact VE_iret (pc := 128) dX12_person_128 rfl rfl rfl
  · rw [h1i] at c10; exact absurd c10 (by decide)
theorem X12_person_bad2 {n pp r bb q : Nat} {x : Int32} (ci : MI S n pp r bb) (hq : q < pp) (hx : x < 0 ∨ nI 7 < x) (hb : gB G ≤ b) (hd : 3 ≤ d) : VM G mX12_person d 0 0 [.ref (b + 0), .int (nI q), .int x] (xE (some (.int 0)) (wH G b tbM (up2 (up2 S 0 2 0) 0 2 1) h0)) (wH G b tbM S h0) := by
  have ciT := ci.cz (j := 2) (x := 0) (by decide)
  have h8 : pp ≤ 8 := ci.2.2.2.2.1
  refine VM_start (ls := [some (.ref (b + 0)), some (.int (nI q)), some (.int x)]) rfl ?_
  -- %m X12_person
  have h1i : inR (nI q) 0 (nI pp - 1) = true := inR_pp (by omega) (by omega)
  refine V_aload_n (pc := 0) (i := 0) dX12_person_0 rfl rfl ?_
  refine V_iconst (pc := 1) (v := 0) dX12_person_1 (by decide) ?_
  refine VW_putI (pc := 2) dX12_person_2 fX12_139 ftX12 (fpI rfl rfl (tyX12_ok 2 (by decide))) (by first | assumption | rfl) rfl (by assumption) ?_
  generalize up2 S 0 2 0 = T at ciT ⊢
  obtain ⟨hn, h12, hg, hp, -⟩ := id ciT
  refine V_aload_n (pc := 5) (i := 0) dX12_person_5 rfl rfl ?_
  refine V_iload_n (pc := 6) (i := 1) dX12_person_6 rfl rfl ?_
  refine V_V1i (pc := 7) dX12_person_7 cX12_384 (by first | assumption | rfl) (X12_isPerson (d := 1) _ (by omega)) (Nat.le_of_ble_eq_true rfl) (by omega) (Nat.le_of_ble_eq_true rfl) ?_
  rw [hp]
  refine V_if_ne (pc := 10) 19 dX12_person_10 rfl (fun c10 => ?_) (fun c10 => ?_)
  · refine V_iload_n (pc := 19) (i := 2) dX12_person_19 rfl rfl ?_
    refine V_tableOut (pc := 20) 129 dX12_person_20 (sw_out (k := 7) (by decide) hx) rfl ?_
    refine V_aload_n (pc := 129) (i := 0) dX12_person_129 rfl rfl ?_
    refine V_iconst (pc := 130) (v := 1) dX12_person_130 (by decide) ?_
    refine V_V1i (pc := 131) dX12_person_131 cX12_287 (by first | assumption | rfl) (X12_fail (d := 0) 1 hb) (Nat.le_of_ble_eq_true rfl) (by omega) (Nat.le_of_ble_eq_true rfl) ?_
    exact VE_iret (pc := 134) dX12_person_134 rfl rfl rfl
  · rw [h1i] at c10; exact absurd c10 (by decide)
theorem X12_count_0 {n pp r bb : Nat} (ci : MI S n pp r bb) (hb : gB G ≤ b) (hd : 6 ≤ d) : VM G mX12_count d 0 0 [.ref (b + 0), .int 0] (xE (some (.int (up2 S 0 2 0 3 0))) (wH G b tbM (up2 S 0 2 0) h0)) (wH G b tbM S h0) := by
  have ciT := ci.cz (j := 2) (x := 0) (by decide)
  refine VM_start (ls := [some (.ref (b + 0)), some (.int 0)]) rfl ?_
  -- %m X12_count
  refine V_aload_n (pc := 0) (i := 0) dX12_count_0 rfl rfl ?_
  refine V_iconst (pc := 1) (v := 0) dX12_count_1 (by decide) ?_
  refine VW_putI (pc := 2) dX12_count_2 fX12_139 ftX12 (fpI rfl rfl (tyX12_ok 2 (by decide))) (by first | assumption | rfl) rfl (by assumption) ?_
  refine V_iload_n (pc := 5) (i := 1) dX12_count_5 rfl rfl ?_
  generalize up2 S 0 2 0 = T at ciT ⊢
  obtain ⟨hn, h12, hg, hp, -⟩ := id ciT
  refine V_tableIn (pc := 6) (off := 74) 80 dX12_count_6 (by decide) (by decide) (by decide) rfl ?_
  refine V_aload_n (pc := 80) (i := 0) dX12_count_80 rfl rfl ?_
  refine VW_getR (pc := 81) dX12_count_81 fX12_36 (by first | assumption | rfl) rfl ?_
  refine V_iload_n (pc := 84) (i := 1) dX12_count_84 rfl rfl ?_
  refine VW_ialdN (pc := 85) dX12_count_85 (by first | assumption | rfl) (j := 0) rfl (by decide) (by first | decide | omega) ?_
  exact VE_iret (pc := 86) dX12_count_86 rfl rfl rfl
theorem X12_count_1 {n pp r bb : Nat} (ci : MI S n pp r bb) (hb : gB G ≤ b) (hd : 6 ≤ d) : VM G mX12_count d 0 0 [.ref (b + 0), .int 1] (xE (some (.int (up2 S 0 2 0 3 1))) (wH G b tbM (up2 S 0 2 0) h0)) (wH G b tbM S h0) := by
  have ciT := ci.cz (j := 2) (x := 0) (by decide)
  refine VM_start (ls := [some (.ref (b + 0)), some (.int 1)]) rfl ?_
  -- %m X12_count
  refine V_aload_n (pc := 0) (i := 0) dX12_count_0 rfl rfl ?_
  refine V_iconst (pc := 1) (v := 0) dX12_count_1 (by decide) ?_
  refine VW_putI (pc := 2) dX12_count_2 fX12_139 ftX12 (fpI rfl rfl (tyX12_ok 2 (by decide))) (by first | assumption | rfl) rfl (by assumption) ?_
  refine V_iload_n (pc := 5) (i := 1) dX12_count_5 rfl rfl ?_
  generalize up2 S 0 2 0 = T at ciT ⊢
  obtain ⟨hn, h12, hg, hp, -⟩ := id ciT
  refine V_tableIn (pc := 6) (off := 74) 80 dX12_count_6 (by decide) (by decide) (by decide) rfl ?_
  refine V_aload_n (pc := 80) (i := 0) dX12_count_80 rfl rfl ?_
  refine VW_getR (pc := 81) dX12_count_81 fX12_36 (by first | assumption | rfl) rfl ?_
  refine V_iload_n (pc := 84) (i := 1) dX12_count_84 rfl rfl ?_
  refine VW_ialdN (pc := 85) dX12_count_85 (by first | assumption | rfl) (j := 1) rfl (by decide) (by first | decide | omega) ?_
  exact VE_iret (pc := 86) dX12_count_86 rfl rfl rfl
theorem X12_count_2 {n pp r bb : Nat} (ci : MI S n pp r bb) (hb : gB G ≤ b) (hd : 6 ≤ d) : VM G mX12_count d 0 0 [.ref (b + 0), .int 2] (xE (some (.int (up2 S 0 2 0 0 35))) (wH G b tbM (up2 S 0 2 0) h0)) (wH G b tbM S h0) := by
  have ciT := ci.cz (j := 2) (x := 0) (by decide)
  refine VM_start (ls := [some (.ref (b + 0)), some (.int 2)]) rfl ?_
  -- %m X12_count
  refine V_aload_n (pc := 0) (i := 0) dX12_count_0 rfl rfl ?_
  refine V_iconst (pc := 1) (v := 0) dX12_count_1 (by decide) ?_
  refine VW_putI (pc := 2) dX12_count_2 fX12_139 ftX12 (fpI rfl rfl (tyX12_ok 2 (by decide))) (by first | assumption | rfl) rfl (by assumption) ?_
  refine V_iload_n (pc := 5) (i := 1) dX12_count_5 rfl rfl ?_
  generalize up2 S 0 2 0 = T at ciT ⊢
  obtain ⟨hn, h12, hg, hp, -⟩ := id ciT
  refine V_tableIn (pc := 6) (off := 81) 87 dX12_count_6 (by decide) (by decide) (by decide) rfl ?_
  refine V_aload_n (pc := 87) (i := 0) dX12_count_87 rfl rfl ?_
  refine VW_getI (pc := 88) dX12_count_88 fX12_136 (by first | assumption | rfl) rfl ?_
  exact VE_iret (pc := 91) dX12_count_91 rfl rfl rfl
theorem X12_count_3 {n pp r bb : Nat} (ci : MI S n pp r bb) (hb : gB G ≤ b) (hd : 6 ≤ d) : VM G mX12_count d 0 0 [.ref (b + 0), .int 3] (xE (some (.int (up2 S 0 2 0 0 32))) (wH G b tbM (up2 S 0 2 0) h0)) (wH G b tbM S h0) := by
  have ciT := ci.cz (j := 2) (x := 0) (by decide)
  refine VM_start (ls := [some (.ref (b + 0)), some (.int 3)]) rfl ?_
  -- %m X12_count
  refine V_aload_n (pc := 0) (i := 0) dX12_count_0 rfl rfl ?_
  refine V_iconst (pc := 1) (v := 0) dX12_count_1 (by decide) ?_
  refine VW_putI (pc := 2) dX12_count_2 fX12_139 ftX12 (fpI rfl rfl (tyX12_ok 2 (by decide))) (by first | assumption | rfl) rfl (by assumption) ?_
  refine V_iload_n (pc := 5) (i := 1) dX12_count_5 rfl rfl ?_
  generalize up2 S 0 2 0 = T at ciT ⊢
  obtain ⟨hn, h12, hg, hp, -⟩ := id ciT
  refine V_tableIn (pc := 6) (off := 86) 92 dX12_count_6 (by decide) (by decide) (by decide) rfl ?_
  refine V_aload_n (pc := 92) (i := 0) dX12_count_92 rfl rfl ?_
  refine VW_getI (pc := 93) dX12_count_93 fX12_300 (by first | assumption | rfl) rfl ?_
  exact VE_iret (pc := 96) dX12_count_96 rfl rfl rfl
theorem X12_count_4 {n pp r bb : Nat} (ci : MI S n pp r bb) (hb : gB G ≤ b) (hd : 6 ≤ d) : VM G mX12_count d 0 0 [.ref (b + 0), .int 4] (xE (some (.int (up2 S 0 2 0 0 33))) (wH G b tbM (up2 S 0 2 0) h0)) (wH G b tbM S h0) := by
  have ciT := ci.cz (j := 2) (x := 0) (by decide)
  refine VM_start (ls := [some (.ref (b + 0)), some (.int 4)]) rfl ?_
  -- %m X12_count
  refine V_aload_n (pc := 0) (i := 0) dX12_count_0 rfl rfl ?_
  refine V_iconst (pc := 1) (v := 0) dX12_count_1 (by decide) ?_
  refine VW_putI (pc := 2) dX12_count_2 fX12_139 ftX12 (fpI rfl rfl (tyX12_ok 2 (by decide))) (by first | assumption | rfl) rfl (by assumption) ?_
  refine V_iload_n (pc := 5) (i := 1) dX12_count_5 rfl rfl ?_
  generalize up2 S 0 2 0 = T at ciT ⊢
  obtain ⟨hn, h12, hg, hp, -⟩ := id ciT
  refine V_tableIn (pc := 6) (off := 91) 97 dX12_count_6 (by decide) (by decide) (by decide) rfl ?_
  refine V_aload_n (pc := 97) (i := 0) dX12_count_97 rfl rfl ?_
  refine VW_getI (pc := 98) dX12_count_98 fX12_302 (by first | assumption | rfl) rfl ?_
  exact VE_iret (pc := 101) dX12_count_101 rfl rfl rfl
theorem X12_count_5 {n pp r bb : Nat} (ci : MI S n pp r bb) (hb : gB G ≤ b) (hd : 6 ≤ d) : VM G mX12_count d 0 0 [.ref (b + 0), .int 5] (xE (some (.int (up2 S 0 2 0 0 34))) (wH G b tbM (up2 S 0 2 0) h0)) (wH G b tbM S h0) := by
  have ciT := ci.cz (j := 2) (x := 0) (by decide)
  refine VM_start (ls := [some (.ref (b + 0)), some (.int 5)]) rfl ?_
  -- %m X12_count
  refine V_aload_n (pc := 0) (i := 0) dX12_count_0 rfl rfl ?_
  refine V_iconst (pc := 1) (v := 0) dX12_count_1 (by decide) ?_
  refine VW_putI (pc := 2) dX12_count_2 fX12_139 ftX12 (fpI rfl rfl (tyX12_ok 2 (by decide))) (by first | assumption | rfl) rfl (by assumption) ?_
  refine V_iload_n (pc := 5) (i := 1) dX12_count_5 rfl rfl ?_
  generalize up2 S 0 2 0 = T at ciT ⊢
  obtain ⟨hn, h12, hg, hp, -⟩ := id ciT
  refine V_tableIn (pc := 6) (off := 96) 102 dX12_count_6 (by decide) (by decide) (by decide) rfl ?_
  refine V_aload_n (pc := 102) (i := 0) dX12_count_102 rfl rfl ?_
  refine VW_getI (pc := 103) dX12_count_103 fX12_304 (by first | assumption | rfl) rfl ?_
  exact VE_iret (pc := 106) dX12_count_106 rfl rfl rfl
theorem X12_count_6 {n pp r bb : Nat} (ci : MI S n pp r bb) (hb : gB G ≤ b) (hd : 6 ≤ d) : VM G mX12_count d 0 0 [.ref (b + 0), .int 6] (xE (some (.int (colB (fun i => !hasB (up2 S 0 2 0 0 34) (nI i) && mIdl (up2 S 0 2 0) n i) n 0 0))) (wH G b tbM (up2 S 0 2 0) h0)) (wH G b tbM S h0) := by
  have ciT := ci.cz (j := 2) (x := 0) (by decide)
  refine VM_start (ls := [some (.ref (b + 0)), some (.int 6)]) rfl ?_
  -- %m X12_count
  refine V_aload_n (pc := 0) (i := 0) dX12_count_0 rfl rfl ?_
  refine V_iconst (pc := 1) (v := 0) dX12_count_1 (by decide) ?_
  refine VW_putI (pc := 2) dX12_count_2 fX12_139 ftX12 (fpI rfl rfl (tyX12_ok 2 (by decide))) (by first | assumption | rfl) rfl (by assumption) ?_
  refine V_iload_n (pc := 5) (i := 1) dX12_count_5 rfl rfl ?_
  generalize up2 S 0 2 0 = T at ciT ⊢
  obtain ⟨hn, h12, hg, hp, -⟩ := id ciT
  refine V_tableIn (pc := 6) (off := 101) 107 dX12_count_6 (by decide) (by decide) (by decide) rfl ?_
  refine V_aload_n (pc := 107) (i := 0) dX12_count_107 rfl rfl ?_
  refine V_V0i (pc := 108) dX12_count_108 cX12_369 (by first | assumption | rfl) (X12_idle (d := 4) hn h12 hg hb (by omega)) (Nat.le_of_ble_eq_true rfl) (by omega) (Nat.le_of_ble_eq_true rfl) ?_
  exact VE_iret (pc := 111) dX12_count_111 rfl rfl rfl
theorem X12_count_7 {n pp r bb : Nat} (ci : MI S n pp r bb) (hb : gB G ≤ b) (hd : 6 ≤ d) : VM G mX12_count d 0 0 [.ref (b + 0), .int 7] (xE (some (.int (endF (up2 S 0 2 0 10) (up2 S 0 2 0 0 34) n 0 0 &&& (endF (fun i => 1 <<< (up2 S 0 2 0 12 i &&& 31)) (up2 S 0 2 0 0 34) n 0 0 ^^^ -1)))) (wH G b tbM (up2 S 0 2 0) h0)) (wH G b tbM S h0) := by
  have ciT := ci.cz (j := 2) (x := 0) (by decide)
  refine VM_start (ls := [some (.ref (b + 0)), some (.int 7)]) rfl ?_
  -- %m X12_count
  refine V_aload_n (pc := 0) (i := 0) dX12_count_0 rfl rfl ?_
  refine V_iconst (pc := 1) (v := 0) dX12_count_1 (by decide) ?_
  refine VW_putI (pc := 2) dX12_count_2 fX12_139 ftX12 (fpI rfl rfl (tyX12_ok 2 (by decide))) (by first | assumption | rfl) rfl (by assumption) ?_
  refine V_iload_n (pc := 5) (i := 1) dX12_count_5 rfl rfl ?_
  generalize up2 S 0 2 0 = T at ciT ⊢
  obtain ⟨hn, h12, hg, hp, -⟩ := id ciT
  refine V_tableIn (pc := 6) (off := 106) 112 dX12_count_6 (by decide) (by decide) (by decide) rfl ?_
  refine V_aload_n (pc := 112) (i := 0) dX12_count_112 rfl rfl ?_
  refine V_V0i (pc := 113) dX12_count_113 cX12_372 (by first | assumption | rfl) (X12_ends (d := 1) hn h12 (by omega)) (Nat.le_of_ble_eq_true rfl) (by omega) (Nat.le_of_ble_eq_true rfl) ?_
  exact VE_iret (pc := 116) dX12_count_116 rfl rfl rfl
theorem X12_count_8 {n pp r bb : Nat} (ci : MI S n pp r bb) (hb : gB G ≤ b) (hd : 6 ≤ d) : VM G mX12_count d 0 0 [.ref (b + 0), .int 8] (xE (some (.int (ringF (fun t => stepF (mLed (up2 S 0 2 0) n) (nI t) 10 1 (1 <<< (nI t &&& 31))) 10 0 (-1)))) (wH G b tbM (up2 S 0 2 0) h0)) (wH G b tbM S h0) := by
  have ciT := ci.cz (j := 2) (x := 0) (by decide)
  refine VM_start (ls := [some (.ref (b + 0)), some (.int 8)]) rfl ?_
  -- %m X12_count
  refine V_aload_n (pc := 0) (i := 0) dX12_count_0 rfl rfl ?_
  refine V_iconst (pc := 1) (v := 0) dX12_count_1 (by decide) ?_
  refine VW_putI (pc := 2) dX12_count_2 fX12_139 ftX12 (fpI rfl rfl (tyX12_ok 2 (by decide))) (by first | assumption | rfl) rfl (by assumption) ?_
  refine V_iload_n (pc := 5) (i := 1) dX12_count_5 rfl rfl ?_
  generalize up2 S 0 2 0 = T at ciT ⊢
  obtain ⟨hn, h12, hg, hp, -⟩ := id ciT
  refine V_tableIn (pc := 6) (off := 111) 117 dX12_count_6 (by decide) (by decide) (by decide) rfl ?_
  refine V_aload_n (pc := 117) (i := 0) dX12_count_117 rfl rfl ?_
  refine V_V0i (pc := 118) dX12_count_118 cX12_375 (by first | assumption | rfl) (X12_ring (d := 3) hn h12 (by omega)) (Nat.le_of_ble_eq_true rfl) (by omega) (Nat.le_of_ble_eq_true rfl) ?_
  exact VE_iret (pc := 121) dX12_count_121 rfl rfl rfl
theorem X12_count_9 {n pp r bb : Nat} (ci : MI S n pp r bb) (hb : gB G ≤ b) (hd : 6 ≤ d) : VM G mX12_count d 0 0 [.ref (b + 0), .int 9] (xE (some (.int (up2 S 0 2 0 0 36))) (wH G b tbM (up2 S 0 2 0) h0)) (wH G b tbM S h0) := by
  have ciT := ci.cz (j := 2) (x := 0) (by decide)
  refine VM_start (ls := [some (.ref (b + 0)), some (.int 9)]) rfl ?_
  -- %m X12_count
  refine V_aload_n (pc := 0) (i := 0) dX12_count_0 rfl rfl ?_
  refine V_iconst (pc := 1) (v := 0) dX12_count_1 (by decide) ?_
  refine VW_putI (pc := 2) dX12_count_2 fX12_139 ftX12 (fpI rfl rfl (tyX12_ok 2 (by decide))) (by first | assumption | rfl) rfl (by assumption) ?_
  refine V_iload_n (pc := 5) (i := 1) dX12_count_5 rfl rfl ?_
  generalize up2 S 0 2 0 = T at ciT ⊢
  obtain ⟨hn, h12, hg, hp, -⟩ := id ciT
  refine V_tableIn (pc := 6) (off := 116) 122 dX12_count_6 (by decide) (by decide) (by decide) rfl ?_
  refine V_aload_n (pc := 122) (i := 0) dX12_count_122 rfl rfl ?_
  refine VW_getI (pc := 123) dX12_count_123 fX12_307 (by first | assumption | rfl) rfl ?_
  exact VE_iret (pc := 126) dX12_count_126 rfl rfl rfl
theorem X12_count_10 {n pp r bb : Nat} (ci : MI S n pp r bb) (hb : gB G ≤ b) (hd : 6 ≤ d) : VM G mX12_count d 0 0 [.ref (b + 0), .int 10] (xE (some (.int (up2 S 0 2 0 0 37))) (wH G b tbM (up2 S 0 2 0) h0)) (wH G b tbM S h0) := by
  have ciT := ci.cz (j := 2) (x := 0) (by decide)
  refine VM_start (ls := [some (.ref (b + 0)), some (.int 10)]) rfl ?_
  -- %m X12_count
  refine V_aload_n (pc := 0) (i := 0) dX12_count_0 rfl rfl ?_
  refine V_iconst (pc := 1) (v := 0) dX12_count_1 (by decide) ?_
  refine VW_putI (pc := 2) dX12_count_2 fX12_139 ftX12 (fpI rfl rfl (tyX12_ok 2 (by decide))) (by first | assumption | rfl) rfl (by assumption) ?_
  refine V_iload_n (pc := 5) (i := 1) dX12_count_5 rfl rfl ?_
  generalize up2 S 0 2 0 = T at ciT ⊢
  obtain ⟨hn, h12, hg, hp, -⟩ := id ciT
  refine V_tableIn (pc := 6) (off := 121) 127 dX12_count_6 (by decide) (by decide) (by decide) rfl ?_
  refine V_aload_n (pc := 127) (i := 0) dX12_count_127 rfl rfl ?_
  refine VW_getI (pc := 128) dX12_count_128 fX12_310 (by first | assumption | rfl) rfl ?_
  exact VE_iret (pc := 131) dX12_count_131 rfl rfl rfl
theorem X12_count_11 {n pp r bb : Nat} (ci : MI S n pp r bb) (hb : gB G ≤ b) (hd : 6 ≤ d) : VM G mX12_count d 0 0 [.ref (b + 0), .int 11] (xE (some (.int (up2 S 0 2 0 0 16))) (wH G b tbM (up2 S 0 2 0) h0)) (wH G b tbM S h0) := by
  have ciT := ci.cz (j := 2) (x := 0) (by decide)
  refine VM_start (ls := [some (.ref (b + 0)), some (.int 11)]) rfl ?_
  -- %m X12_count
  refine V_aload_n (pc := 0) (i := 0) dX12_count_0 rfl rfl ?_
  refine V_iconst (pc := 1) (v := 0) dX12_count_1 (by decide) ?_
  refine VW_putI (pc := 2) dX12_count_2 fX12_139 ftX12 (fpI rfl rfl (tyX12_ok 2 (by decide))) (by first | assumption | rfl) rfl (by assumption) ?_
  refine V_iload_n (pc := 5) (i := 1) dX12_count_5 rfl rfl ?_
  generalize up2 S 0 2 0 = T at ciT ⊢
  obtain ⟨hn, h12, hg, hp, -⟩ := id ciT
  refine V_tableIn (pc := 6) (off := 126) 132 dX12_count_6 (by decide) (by decide) (by decide) rfl ?_
  refine V_aload_n (pc := 132) (i := 0) dX12_count_132 rfl rfl ?_
  refine VW_getI (pc := 133) dX12_count_133 fX12_150 (by first | assumption | rfl) rfl ?_
  exact VE_iret (pc := 136) dX12_count_136 rfl rfl rfl
theorem X12_count_12 {n pp r bb : Nat} (ci : MI S n pp r bb) (hb : gB G ≤ b) (hd : 6 ≤ d) : VM G mX12_count d 0 0 [.ref (b + 0), .int 12] (xE (some (.int (up2 S 0 2 0 14 0))) (wH G b tbM (up2 S 0 2 0) h0)) (wH G b tbM S h0) := by
  have ciT := ci.cz (j := 2) (x := 0) (by decide)
  refine VM_start (ls := [some (.ref (b + 0)), some (.int 12)]) rfl ?_
  -- %m X12_count
  refine V_aload_n (pc := 0) (i := 0) dX12_count_0 rfl rfl ?_
  refine V_iconst (pc := 1) (v := 0) dX12_count_1 (by decide) ?_
  refine VW_putI (pc := 2) dX12_count_2 fX12_139 ftX12 (fpI rfl rfl (tyX12_ok 2 (by decide))) (by first | assumption | rfl) rfl (by assumption) ?_
  refine V_iload_n (pc := 5) (i := 1) dX12_count_5 rfl rfl ?_
  generalize up2 S 0 2 0 = T at ciT ⊢
  obtain ⟨hn, h12, hg, hp, -⟩ := id ciT
  refine V_tableIn (pc := 6) (off := 131) 137 dX12_count_6 (by decide) (by decide) (by decide) rfl ?_
  refine V_aload_n (pc := 137) (i := 0) dX12_count_137 rfl rfl ?_
  refine VW_getR (pc := 138) dX12_count_138 fX12_70 (by first | assumption | rfl) rfl ?_
  refine V_iload_n (pc := 141) (i := 1) dX12_count_141 rfl rfl ?_
  refine V_bipush (pc := 142) (v := 12) dX12_count_142 (by decide) ?_
  refine V_isub (pc := 144) dX12_count_144 ?_
  refine VW_ialdN (pc := 145) dX12_count_145 (by first | assumption | rfl) (j := 0) (by decide) (by decide) (by first | decide | omega) ?_
  exact VE_iret (pc := 146) dX12_count_146 rfl rfl rfl
theorem X12_count_13 {n pp r bb : Nat} (ci : MI S n pp r bb) (hb : gB G ≤ b) (hd : 6 ≤ d) : VM G mX12_count d 0 0 [.ref (b + 0), .int 13] (xE (some (.int (up2 S 0 2 0 14 1))) (wH G b tbM (up2 S 0 2 0) h0)) (wH G b tbM S h0) := by
  have ciT := ci.cz (j := 2) (x := 0) (by decide)
  refine VM_start (ls := [some (.ref (b + 0)), some (.int 13)]) rfl ?_
  -- %m X12_count
  refine V_aload_n (pc := 0) (i := 0) dX12_count_0 rfl rfl ?_
  refine V_iconst (pc := 1) (v := 0) dX12_count_1 (by decide) ?_
  refine VW_putI (pc := 2) dX12_count_2 fX12_139 ftX12 (fpI rfl rfl (tyX12_ok 2 (by decide))) (by first | assumption | rfl) rfl (by assumption) ?_
  refine V_iload_n (pc := 5) (i := 1) dX12_count_5 rfl rfl ?_
  generalize up2 S 0 2 0 = T at ciT ⊢
  obtain ⟨hn, h12, hg, hp, -⟩ := id ciT
  refine V_tableIn (pc := 6) (off := 131) 137 dX12_count_6 (by decide) (by decide) (by decide) rfl ?_
  refine V_aload_n (pc := 137) (i := 0) dX12_count_137 rfl rfl ?_
  refine VW_getR (pc := 138) dX12_count_138 fX12_70 (by first | assumption | rfl) rfl ?_
  refine V_iload_n (pc := 141) (i := 1) dX12_count_141 rfl rfl ?_
  refine V_bipush (pc := 142) (v := 12) dX12_count_142 (by decide) ?_
  refine V_isub (pc := 144) dX12_count_144 ?_
  refine VW_ialdN (pc := 145) dX12_count_145 (by first | assumption | rfl) (j := 1) (by decide) (by decide) (by first | decide | omega) ?_
  exact VE_iret (pc := 146) dX12_count_146 rfl rfl rfl
theorem X12_count_14 {n pp r bb : Nat} (ci : MI S n pp r bb) (hb : gB G ≤ b) (hd : 6 ≤ d) : VM G mX12_count d 0 0 [.ref (b + 0), .int 14] (xE (some (.int (up2 S 0 2 0 14 2))) (wH G b tbM (up2 S 0 2 0) h0)) (wH G b tbM S h0) := by
  have ciT := ci.cz (j := 2) (x := 0) (by decide)
  refine VM_start (ls := [some (.ref (b + 0)), some (.int 14)]) rfl ?_
  -- %m X12_count
  refine V_aload_n (pc := 0) (i := 0) dX12_count_0 rfl rfl ?_
  refine V_iconst (pc := 1) (v := 0) dX12_count_1 (by decide) ?_
  refine VW_putI (pc := 2) dX12_count_2 fX12_139 ftX12 (fpI rfl rfl (tyX12_ok 2 (by decide))) (by first | assumption | rfl) rfl (by assumption) ?_
  refine V_iload_n (pc := 5) (i := 1) dX12_count_5 rfl rfl ?_
  generalize up2 S 0 2 0 = T at ciT ⊢
  obtain ⟨hn, h12, hg, hp, -⟩ := id ciT
  refine V_tableIn (pc := 6) (off := 131) 137 dX12_count_6 (by decide) (by decide) (by decide) rfl ?_
  refine V_aload_n (pc := 137) (i := 0) dX12_count_137 rfl rfl ?_
  refine VW_getR (pc := 138) dX12_count_138 fX12_70 (by first | assumption | rfl) rfl ?_
  refine V_iload_n (pc := 141) (i := 1) dX12_count_141 rfl rfl ?_
  refine V_bipush (pc := 142) (v := 12) dX12_count_142 (by decide) ?_
  refine V_isub (pc := 144) dX12_count_144 ?_
  refine VW_ialdN (pc := 145) dX12_count_145 (by first | assumption | rfl) (j := 2) (by decide) (by decide) (by first | decide | omega) ?_
  exact VE_iret (pc := 146) dX12_count_146 rfl rfl rfl
theorem X12_count_bad {x : Int32} (hx : x < 0 ∨ nI 14 < x) (hb : gB G ≤ b) (hd : 3 ≤ d) : VM G mX12_count d 0 0 [.ref (b + 0), .int x] (xE (some (.int 0)) (wH G b tbM (up2 (up2 S 0 2 0) 0 2 1) h0)) (wH G b tbM S h0) := by
  refine VM_start (ls := [some (.ref (b + 0)), some (.int x)]) rfl ?_
  -- %m X12_count
  refine V_aload_n (pc := 0) (i := 0) dX12_count_0 rfl rfl ?_
  refine V_iconst (pc := 1) (v := 0) dX12_count_1 (by decide) ?_
  refine VW_putI (pc := 2) dX12_count_2 fX12_139 ftX12 (fpI rfl rfl (tyX12_ok 2 (by decide))) (by first | assumption | rfl) rfl (by assumption) ?_
  refine V_iload_n (pc := 5) (i := 1) dX12_count_5 rfl rfl ?_
  refine V_tableOut (pc := 6) 147 dX12_count_6 (sw_out (k := 14) (by decide) hx) rfl ?_
  refine V_aload_n (pc := 147) (i := 0) dX12_count_147 rfl rfl ?_
  refine V_iconst (pc := 148) (v := 1) dX12_count_148 (by decide) ?_
  refine V_V1i (pc := 149) dX12_count_149 cX12_287 (by first | assumption | rfl) (X12_fail (d := 0) 1 hb) (Nat.le_of_ble_eq_true rfl) (by omega) (Nat.le_of_ble_eq_true rfl) ?_
  exact VE_iret (pc := 152) dX12_count_152 rfl rfl rfl
def cpL (g : Nat → Int32) : Nat → Nat → (Nat → Int32) → Nat → Int32
  | 0, _, f => f
  | m + 1, k, f => cpL g m (k + 1) (upd f k (g k))
theorem cpL_in {g : Nat → Int32} : ∀ (m k : Nat) (f : Nat → Int32) (j : Nat), cpL g m k f j = if k ≤ j ∧ j < k + m then g j else f j := by
  intro m
  induction m with
  | zero => intro k f j; rw [cpL, if_neg (by omega)]
  | succ m ih =>
    intro k f j
    rw [cpL, ih]
    by_cases h : j = k
    · subst h
      rw [if_neg (by omega), if_pos (by omega)]
      simp [upd]
    · by_cases h2 : k + 1 ≤ j ∧ j < k + 1 + m
      · rw [if_pos h2, if_pos (by omega)]
      · rw [if_neg h2, if_neg (by omega)]
        simp [upd, h]
theorem X12_copyTo {k o N : Nat} (hk : tbM[k]? = some (.inl (0, N))) (ho : tbM[o]? = some (.inl (0, N))) (hko : k ≠ o) (hN : N ≤ 1440) (hb : gB G ≤ b) : VM G mX12_copyTo d 0 0 [.ref (b + k), .ref (b + o)] (xE none (wH G b tbM (upR T k (cpL (T o) N 0 (T k))) h0)) (wH G b tbM T h0) := by
  refine VM_start (ls := [some (.ref (b + k)), some (.ref (b + o)), none]) rfl ?_
  -- %m X12_copyTo
  refine V_iconst (pc := 0) (v := 0) dX12_copyTo_0 (by decide) ?_
  refine V_istore_n (pc := 1) (i := 2) dX12_copyTo_1 rfl (by decide) rfl ?_
  have loop : ∀ (m i : Nat) (f : Nat → Int32), m + i = N → V G mX12_copyTo d 0 0 (xE none (wH G b tbM (upR T k (cpL (T o) m i f)) h0)) 2 [some (.ref (b + k)), some (.ref (b + o)), some (.int (nI i))] [] (wH G b tbM (upR T k f) h0) := by
    intro m
    induction m with
    | zero =>
      intro i f hm
      refine V_iload_n (pc := 2) (i := 2) dX12_copyTo_2 rfl rfl ?_
      refine V_aload_n (pc := 3) (i := 0) dX12_copyTo_3 rfl rfl ?_
      refine VW_alen (pc := 4) dX12_copyTo_4 (by first | assumption | rfl) (by decide) rfl ?_
      refine V_icmp_ge (pc := 5) 20 dX12_copyTo_5 rfl (fun c5 => ?_) (fun c5 => ?_)
      · exact VE_vret (pc := 20) dX12_copyTo_20 rfl rfl
      · exact absurd (show nI N ≤ nI i by rw [show i = N by omega]; exact nI_le (by omega) (by omega)) c5
    | succ m ih =>
      intro i f hm
      rw [cpL]
      refine V_iload_n (pc := 2) (i := 2) dX12_copyTo_2 rfl rfl ?_
      refine V_aload_n (pc := 3) (i := 0) dX12_copyTo_3 rfl rfl ?_
      refine VW_alen (pc := 4) dX12_copyTo_4 (by first | assumption | rfl) (by decide) rfl ?_
      refine V_icmp_ge (pc := 5) 20 dX12_copyTo_5 rfl (fun c5 => ?_) (fun c5 => ?_)
      · exact absurd c5 (nI_ge (b := N) (by omega) (by omega))
      · refine V_aload_n (pc := 8) (i := 0) dX12_copyTo_8 rfl rfl ?_
        refine V_iload_n (pc := 9) (i := 2) dX12_copyTo_9 rfl rfl ?_
        refine V_aload_n (pc := 10) (i := 1) dX12_copyTo_10 rfl rfl ?_
        refine V_iload_n (pc := 11) (i := 2) dX12_copyTo_11 rfl rfl ?_
        refine VW_ialdN (pc := 12) dX12_copyTo_12 (by first | assumption | rfl) rfl (by omega) (by first | decide | omega) ?_
        rw [upR_row (by omega)]
        refine VW_iastN (pc := 13) dX12_copyTo_13 (by first | assumption | rfl) (by assumption) rfl (by omega) (by first | decide | omega) ?_
        rw [up2_upR]
        refine V_iinc (pc := 14) dX12_copyTo_14 (by decide) rfl rfl (iincN (n := 1) (by decide)) ?_
        refine V_goto (pc := 17) 2 dX12_copyTo_17 rfl ?_
        exact ih (i + 1) _ (by omega)
  rw [show wH G b tbM T h0 = wH G b tbM (upR T k (T k)) h0 by rw [upR_self]]
  exact loop N 0 _ rfl
end M12
