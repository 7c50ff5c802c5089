/-! ===== the class is made ===== -/
section C1
variable {G : xG} {d : Nat} {b : Nat} {h0 : xH}
theorem X9_init_2 {f : Nat → Option xC} (hf : f 2 = some (.inr (9, fun k => defaultValue (tyX9 k)))) (hb : gB G ≤ b) (hd : 1 ≤ d) : VM G mX9_init d 1 700 [.ref (b + 2)] (xE none (pN b 4 (uC (uC f 3 (aC 1 700)) 2 (.inr (9, objF b [5, 0, 0, 0, 0, 0, 0] (rw1 3 (-1))))) h0)) (pN b 3 f h0) := by
  refine VM_start (ls := [some (.ref (b + 2))]) rfl ?_
  refine V_aload_n (pc := 0) (i := 0) dX9_init_0 rfl rfl ?_
  refine V_obj (pc := 1) dX9_init_1 cX9_3 w_objI w_objC (by omega) (Nat.le_of_ble_eq_true rfl) ?_
  refine V_aload_n (pc := 4) (i := 0) dX9_init_4 rfl rfl ?_
  refine V_sipush (pc := 5) (v := 700) dX9_init_5 (by decide) ?_
  refine P_newB (pc := 8) (N := 700) dX9_init_8 (by rfl) (by decide) ?_
  refine P_putF (pc := 10) (k := 2) dX9_init_10 fX9_9 ftX9 (fpFR rfl rfl (tyX9_ok 0 (by decide)) rfl rfl) rfl (ownX rfl) (by decide) hf hb ?_
  refine V_aload_n (pc := 13) (i := 0) dX9_init_13 rfl rfl ?_
  refine V_iconst (pc := 14) (v := 0) dX9_init_14 (by decide) ?_
  refine P_put (pc := 15) (k := 2) dX9_init_15 fX9_15 ftX9 (fpI rfl rfl (tyX9_ok 1 (by decide))) (by decide) (by rfl) hb ?_
  refine V_aload_n (pc := 18) (i := 0) dX9_init_18 rfl rfl ?_
  refine V_iconst (pc := 19) (v := 0) dX9_init_19 (by decide) ?_
  refine P_put (pc := 20) (k := 2) dX9_init_20 fX9_19 ftX9 (fpI rfl rfl (tyX9_ok 2 (by decide))) (by decide) (by rfl) hb ?_
  refine V_aload_n (pc := 23) (i := 0) dX9_init_23 rfl rfl ?_
  refine V_iconst (pc := 24) (v := -1) dX9_init_24 (by decide) ?_
  refine P_put (pc := 25) (k := 2) dX9_init_25 fX9_22 ftX9 (fpI rfl rfl (tyX9_ok 3 (by decide))) (by decide) (by rfl) hb ?_
  refine V_aload_n (pc := 28) (i := 0) dX9_init_28 rfl rfl ?_
  refine V_iconst (pc := 29) (v := 0) dX9_init_29 (by decide) ?_
  refine P_put (pc := 30) (k := 2) dX9_init_30 fX9_25 ftX9 (fpI rfl rfl (tyX9_ok 4 (by decide))) (by decide) (by rfl) hb ?_
  refine V_aload_n (pc := 33) (i := 0) dX9_init_33 rfl rfl ?_
  refine V_iconst (pc := 34) (v := 0) dX9_init_34 (by decide) ?_
  refine P_put (pc := 35) (k := 2) dX9_init_35 fX9_28 ftX9 (fpI rfl rfl (tyX9_ok 5 (by decide))) (by decide) (by rfl) hb ?_
  refine V_aload_n (pc := 38) (i := 0) dX9_init_38 rfl rfl ?_
  refine V_iconst (pc := 39) (v := 0) dX9_init_39 (by decide) ?_
  refine P_put (pc := 40) (k := 2) dX9_init_40 fX9_31 ftX9 (fpI rfl rfl (tyX9_ok 6 (by decide))) (by decide) (by rfl) hb ?_
  exact P_ret (pc := 43) dX9_init_43 rfl (by decide) (fun j hj => by simp only [uC, if_neg hj]) (by rfl) (by rfl) (by exact fl (fl (fl (fl (fl (fl (fl fl0 rfl) rfl) rfl) rfl) rfl) rfl) rfl)
theorem X1_init_6 {f : Nat → Option xC} (hf : f 6 = some (.inr (1, fun k => defaultValue (tyX1 k)))) (hb : gB G ≤ b) (hd : 1 ≤ d) : VM G mX1_init d 3 36 [.ref (b + 6)] (xE none (pN b 10 (uC (uC (uC (uC f 7 (aC 0 12)) 8 (aC 0 12)) 9 (aC 0 12)) 6 (.inr (1, objF b [9, 10, 11, 0, 0] (z0)))) h0)) (pN b 7 f h0) := by
  refine VM_start (ls := [some (.ref (b + 6))]) rfl ?_
  refine V_aload_n (pc := 0) (i := 0) dX1_init_0 rfl rfl ?_
  refine V_obj (pc := 1) dX1_init_1 cX1_3 w_objI w_objC (by omega) (Nat.le_of_ble_eq_true rfl) ?_
  refine V_aload_n (pc := 4) (i := 0) dX1_init_4 rfl rfl ?_
  refine V_bipush (pc := 5) (v := 12) dX1_init_5 (by decide) ?_
  refine P_newI (pc := 7) (N := 12) dX1_init_7 (by rfl) (by decide) ?_
  refine P_putF (pc := 9) (k := 6) dX1_init_9 fX1_9 ftX1 (fpFR rfl rfl (tyX1_ok 0 (by decide)) rfl rfl) rfl (ownX rfl) (by decide) hf hb ?_
  refine V_aload_n (pc := 12) (i := 0) dX1_init_12 rfl rfl ?_
  refine V_bipush (pc := 13) (v := 12) dX1_init_13 (by decide) ?_
  refine P_newI (pc := 15) (N := 12) dX1_init_15 (by rfl) (by decide) ?_
  refine P_putF (pc := 17) (k := 6) dX1_init_17 fX1_15 ftX1 (fpFR rfl rfl (tyX1_ok 1 (by decide)) rfl rfl) rfl (ownX rfl) (by decide) (by rfl) hb ?_
  refine V_aload_n (pc := 20) (i := 0) dX1_init_20 rfl rfl ?_
  refine V_bipush (pc := 21) (v := 12) dX1_init_21 (by decide) ?_
  refine P_newI (pc := 23) (N := 12) dX1_init_23 (by rfl) (by decide) ?_
  refine P_putF (pc := 25) (k := 6) dX1_init_25 fX1_18 ftX1 (fpFR rfl rfl (tyX1_ok 2 (by decide)) rfl rfl) rfl (ownX rfl) (by decide) (by rfl) hb ?_
  refine V_aload_n (pc := 28) (i := 0) dX1_init_28 rfl rfl ?_
  refine V_iconst (pc := 29) (v := 0) dX1_init_29 (by decide) ?_
  refine P_put (pc := 30) (k := 6) dX1_init_30 fX1_21 ftX1 (fpI rfl rfl (tyX1_ok 3 (by decide))) (by decide) (by rfl) hb ?_
  refine V_aload_n (pc := 33) (i := 0) dX1_init_33 rfl rfl ?_
  refine V_iconst (pc := 34) (v := 0) dX1_init_34 (by decide) ?_
  refine P_put (pc := 35) (k := 6) dX1_init_35 fX1_25 ftX1 (fpI rfl rfl (tyX1_ok 4 (by decide))) (by decide) (by rfl) hb ?_
  exact P_ret (pc := 38) dX1_init_38 rfl (by decide) (fun j hj => by simp only [uC, if_neg hj]) (by rfl) (by rfl) (by exact fl (fl (fl (fl (fl fl0 rfl) rfl) rfl) rfl) rfl)
theorem X4_init_10 {f : Nat → Option xC} (hf : f 10 = some (.inr (4, fun k => defaultValue (tyX4 k)))) (hb : gB G ≤ b) (hd : 1 ≤ d) : VM G mX4_init d 2 764 [.ref (b + 10)] (xE none (pN b 13 (uC (uC (uC f 11 (aC 0 700)) 12 (aC 0 64)) 10 (.inr (4, objF b [13, 14, 0] (z0)))) h0)) (pN b 11 f h0) := by
  refine VM_start (ls := [some (.ref (b + 10))]) rfl ?_
  refine V_aload_n (pc := 0) (i := 0) dX4_init_0 rfl rfl ?_
  refine V_obj (pc := 1) dX4_init_1 cX4_3 w_objI w_objC (by omega) (Nat.le_of_ble_eq_true rfl) ?_
  refine V_aload_n (pc := 4) (i := 0) dX4_init_4 rfl rfl ?_
  refine V_sipush (pc := 5) (v := 700) dX4_init_5 (by decide) ?_
  refine P_newI (pc := 8) (N := 700) dX4_init_8 (by rfl) (by decide) ?_
  refine P_putF (pc := 10) (k := 10) dX4_init_10 fX4_9 ftX4 (fpFR rfl rfl (tyX4_ok 0 (by decide)) rfl rfl) rfl (ownX rfl) (by decide) hf hb ?_
  refine V_aload_n (pc := 13) (i := 0) dX4_init_13 rfl rfl ?_
  refine V_bipush (pc := 14) (v := 64) dX4_init_14 (by decide) ?_
  refine P_newI (pc := 16) (N := 64) dX4_init_16 (by rfl) (by decide) ?_
  refine P_putF (pc := 18) (k := 10) dX4_init_18 fX4_15 ftX4 (fpFR rfl rfl (tyX4_ok 1 (by decide)) rfl rfl) rfl (ownX rfl) (by decide) (by rfl) hb ?_
  exact P_ret (pc := 21) dX4_init_21 rfl (by decide) (fun j hj => by simp only [uC, if_neg hj]) (by rfl) (by rfl) (by exact fl (fl (fl fl0 rfl) rfl) rfl)
theorem X7_init_4 {f : Nat → Option xC} (hf : f 4 = some (.inr (7, fun k => defaultValue (tyX7 k)))) (hb : gB G ≤ b) (hd : 2 ≤ d) : VM G mX7_init d 12 850 [.ref (b + 4)] (xE none (pN b 17 (uC (uC (uC (uC (uC (uC (uC (uC (uC (uC (uC (uC (uC (uC (uC f 5 (aC 0 10)) 6 (.inr (1, fun k => defaultValue (tyX1 k)))) 7 (aC 0 12)) 8 (aC 0 12)) 9 (aC 0 12)) 6 (.inr (1, objF b [9, 10, 11, 0, 0] (z0)))) 10 (.inr (4, fun k => defaultValue (tyX4 k)))) 11 (aC 0 700)) 12 (aC 0 64)) 10 (.inr (4, objF b [13, 14, 0] (z0)))) 13 (aC 0 8)) 14 (aC 0 8)) 15 (aC 0 8)) 16 (aC 0 8)) 4 (.inr (7, objF b [7, 8, 12, 15, 16, 17, 18, 0, 0, 0, 0] (rw1 9 4)))) h0)) (pN b 5 f h0) := by
  refine VM_start (ls := [some (.ref (b + 4))]) rfl ?_
  refine V_aload_n (pc := 0) (i := 0) dX7_init_0 rfl rfl ?_
  refine V_obj (pc := 1) dX7_init_1 cX7_3 w_objI w_objC (by omega) (Nat.le_of_ble_eq_true rfl) ?_
  refine V_aload_n (pc := 4) (i := 0) dX7_init_4 rfl rfl ?_
  refine V_bipush (pc := 5) (v := 10) dX7_init_5 (by decide) ?_
  refine P_newI (pc := 7) (N := 10) dX7_init_7 (by rfl) (by decide) ?_
  refine P_putF (pc := 9) (k := 4) dX7_init_9 fX7_9 ftX7 (fpFR rfl rfl (tyX7_ok 0 (by decide)) rfl rfl) rfl (ownX rfl) (by decide) hf hb ?_
  refine V_aload_n (pc := 12) (i := 0) dX7_init_12 rfl rfl ?_
  refine P_new (pc := 13) (N := 5) dX7_init_13 nX7_15 ?_
  refine V_dup (pc := 16) dX7_init_16 rfl ?_
  refine P_cIN (pc := 17) (mc := 3) (ms := 36) dX7_init_17 cX7_17 (X1_init_6 (d := 1) (by rfl) hb (by omega)) (Nat.le_of_ble_eq_true rfl) (by omega) (Nat.le_of_ble_eq_true rfl) ?_
  refine P_putF (pc := 20) (k := 4) dX7_init_20 fX7_18 ftX7 (fpFR rfl rfl (tyX7_ok 1 (by decide)) rfl rfl) rfl (ownX rfl) (by decide) (by rfl) hb ?_
  refine V_aload_n (pc := 23) (i := 0) dX7_init_23 rfl rfl ?_
  refine P_new (pc := 24) (N := 3) dX7_init_24 nX7_22 ?_
  refine V_dup (pc := 27) dX7_init_27 rfl ?_
  refine P_cIN (pc := 28) (mc := 2) (ms := 764) dX7_init_28 cX7_24 (X4_init_10 (d := 1) (by rfl) hb (by omega)) (Nat.le_of_ble_eq_true rfl) (by omega) (Nat.le_of_ble_eq_true rfl) ?_
  refine P_putF (pc := 31) (k := 4) dX7_init_31 fX7_25 ftX7 (fpFR rfl rfl (tyX7_ok 2 (by decide)) rfl rfl) rfl (ownX rfl) (by decide) (by rfl) hb ?_
  refine V_aload_n (pc := 34) (i := 0) dX7_init_34 rfl rfl ?_
  refine V_bipush (pc := 35) (v := 8) dX7_init_35 (by decide) ?_
  refine P_newI (pc := 37) (N := 8) dX7_init_37 (by rfl) (by decide) ?_
  refine P_putF (pc := 39) (k := 4) dX7_init_39 fX7_29 ftX7 (fpFR rfl rfl (tyX7_ok 3 (by decide)) rfl rfl) rfl (ownX rfl) (by decide) (by rfl) hb ?_
  refine V_aload_n (pc := 42) (i := 0) dX7_init_42 rfl rfl ?_
  refine V_bipush (pc := 43) (v := 8) dX7_init_43 (by decide) ?_
  refine P_newI (pc := 45) (N := 8) dX7_init_45 (by rfl) (by decide) ?_
  refine P_putF (pc := 47) (k := 4) dX7_init_47 fX7_32 ftX7 (fpFR rfl rfl (tyX7_ok 4 (by decide)) rfl rfl) rfl (ownX rfl) (by decide) (by rfl) hb ?_
  refine V_aload_n (pc := 50) (i := 0) dX7_init_50 rfl rfl ?_
  refine V_bipush (pc := 51) (v := 8) dX7_init_51 (by decide) ?_
  refine P_newI (pc := 53) (N := 8) dX7_init_53 (by rfl) (by decide) ?_
  refine P_putF (pc := 55) (k := 4) dX7_init_55 fX7_35 ftX7 (fpFR rfl rfl (tyX7_ok 5 (by decide)) rfl rfl) rfl (ownX rfl) (by decide) (by rfl) hb ?_
  refine V_aload_n (pc := 58) (i := 0) dX7_init_58 rfl rfl ?_
  refine V_bipush (pc := 59) (v := 8) dX7_init_59 (by decide) ?_
  refine P_newI (pc := 61) (N := 8) dX7_init_61 (by rfl) (by decide) ?_
  refine P_putF (pc := 63) (k := 4) dX7_init_63 fX7_38 ftX7 (fpFR rfl rfl (tyX7_ok 6 (by decide)) rfl rfl) rfl (ownX rfl) (by decide) (by rfl) hb ?_
  refine V_aload_n (pc := 66) (i := 0) dX7_init_66 rfl rfl ?_
  refine V_iconst (pc := 67) (v := 0) dX7_init_67 (by decide) ?_
  refine P_put (pc := 68) (k := 4) dX7_init_68 fX7_41 ftX7 (fpI rfl rfl (tyX7_ok 7 (by decide))) (by decide) (by rfl) hb ?_
  refine V_aload_n (pc := 71) (i := 0) dX7_init_71 rfl rfl ?_
  refine V_iconst (pc := 72) (v := 0) dX7_init_72 (by decide) ?_
  refine P_put (pc := 73) (k := 4) dX7_init_73 fX7_45 ftX7 (fpI rfl rfl (tyX7_ok 8 (by decide))) (by decide) (by rfl) hb ?_
  refine V_aload_n (pc := 76) (i := 0) dX7_init_76 rfl rfl ?_
  refine V_iconst (pc := 77) (v := 4) dX7_init_77 (by decide) ?_
  refine P_put (pc := 78) (k := 4) dX7_init_78 fX7_48 ftX7 (fpI rfl rfl (tyX7_ok 9 (by decide))) (by decide) (by rfl) hb ?_
  refine V_aload_n (pc := 81) (i := 0) dX7_init_81 rfl rfl ?_
  refine V_iconst (pc := 82) (v := 0) dX7_init_82 (by decide) ?_
  refine P_put (pc := 83) (k := 4) dX7_init_83 fX7_51 ftX7 (fpZ rfl rfl (tyX7_ok 10 (by decide)) (Or.inl rfl)) (by decide) (by rfl) hb ?_
  exact P_ret (pc := 86) dX7_init_86 rfl (by decide) (fun j hj => by simp only [uC, if_neg hj]) (by rfl) (by rfl) (by exact fl (fl (fl (fl (fl (fl (fl (fl (fl (fl (fl fl0 rfl) rfl) rfl) rfl) rfl) rfl) rfl) rfl) rfl) rfl) rfl)
theorem X3_init_1 {f : Nat → Option xC} (hf : f 1 = some (.inr (3, fun k => defaultValue (tyX3 k)))) (hb : gB G ≤ b) (hd : 3 ≤ d) : VM G mX3_init d 15 1568 [.ref (b + 1)] (xE none (pN b 17 (uC (uC (uC (uC (uC (uC (uC (uC (uC (uC (uC (uC (uC (uC (uC (uC (uC (uC (uC (uC f 2 (.inr (9, fun k => defaultValue (tyX9 k)))) 3 (aC 1 700)) 2 (.inr (9, objF b [5, 0, 0, 0, 0, 0, 0] (rw1 3 (-1))))) 4 (.inr (7, fun k => defaultValue (tyX7 k)))) 5 (aC 0 10)) 6 (.inr (1, fun k => defaultValue (tyX1 k)))) 7 (aC 0 12)) 8 (aC 0 12)) 9 (aC 0 12)) 6 (.inr (1, objF b [9, 10, 11, 0, 0] (z0)))) 10 (.inr (4, fun k => defaultValue (tyX4 k)))) 11 (aC 0 700)) 12 (aC 0 64)) 10 (.inr (4, objF b [13, 14, 0] (z0)))) 13 (aC 0 8)) 14 (aC 0 8)) 15 (aC 0 8)) 16 (aC 0 8)) 4 (.inr (7, objF b [7, 8, 12, 15, 16, 17, 18, 0, 0, 0, 0] (rw1 9 4)))) 1 (.inr (3, objF b [4, 1, 0, 0] (rw2 1 1 3 (-1))))) h0)) (pN b 2 f h0) := by
  refine VM_start (ls := [some (.ref (b + 1))]) rfl ?_
  refine V_aload_n (pc := 0) (i := 0) dX3_init_0 rfl rfl ?_
  refine V_obj (pc := 1) dX3_init_1 cX3_3 w_objI w_objC (by omega) (Nat.le_of_ble_eq_true rfl) ?_
  refine V_aload_n (pc := 4) (i := 0) dX3_init_4 rfl rfl ?_
  refine P_new (pc := 5) (N := 7) dX3_init_5 nX3_9 ?_
  refine V_dup (pc := 8) dX3_init_8 rfl ?_
  refine P_cIN (pc := 9) (mc := 1) (ms := 700) dX3_init_9 cX3_11 (X9_init_2 (d := 1) (by rfl) hb (by omega)) (Nat.le_of_ble_eq_true rfl) (by omega) (Nat.le_of_ble_eq_true rfl) ?_
  refine P_putF (pc := 12) (k := 1) dX3_init_12 fX3_12 ftX3 (fpFR rfl rfl (tyX3_ok 0 (by decide)) rfl rfl) rfl (ownX rfl) (by decide) hf hb ?_
  refine V_aload_n (pc := 15) (i := 0) dX3_init_15 rfl rfl ?_
  refine P_new (pc := 16) (N := 11) dX3_init_16 nX3_18 ?_
  refine V_dup (pc := 19) dX3_init_19 rfl ?_
  refine P_cIN (pc := 20) (mc := 12) (ms := 850) dX3_init_20 cX3_20 (X7_init_4 (d := 2) (by rfl) hb (by omega)) (Nat.le_of_ble_eq_true rfl) (by omega) (Nat.le_of_ble_eq_true rfl) ?_
  refine P_put (pc := 23) (k := 1) dX3_init_23 fX3_21 ftX3 (fpR rfl rfl (tyX3_ok 1 (by decide))) (by decide) (by rfl) hb ?_
  refine V_aload_n (pc := 26) (i := 0) dX3_init_26 rfl rfl ?_
  refine V_iconst (pc := 27) (v := 0) dX3_init_27 (by decide) ?_
  refine P_put (pc := 28) (k := 1) dX3_init_28 fX3_25 ftX3 (fpI rfl rfl (tyX3_ok 2 (by decide))) (by decide) (by rfl) hb ?_
  refine V_aload_n (pc := 31) (i := 0) dX3_init_31 rfl rfl ?_
  refine V_iconst (pc := 32) (v := -1) dX3_init_32 (by decide) ?_
  refine P_put (pc := 33) (k := 1) dX3_init_33 fX3_29 ftX3 (fpI rfl rfl (tyX3_ok 3 (by decide))) (by decide) (by rfl) hb ?_
  exact P_ret (pc := 36) dX3_init_36 rfl (by decide) (fun j hj => by simp only [uC, if_neg hj]) (by rfl) (by rfl) (by exact fl (fl (fl (fl fl0 rfl) rfl) rfl) rfl)
theorem X8_init_17 {f : Nat → Option xC} (hf : f 17 = some (.inr (8, fun k => defaultValue (tyX8 k)))) (hb : gB G ≤ b) (hd : 1 ≤ d) : VM G mX8_init d 4 32 [.ref (b + 17)] (xE none (pN b 22 (uC (uC (uC (uC (uC f 18 (aC 0 8)) 19 (aC 0 8)) 20 (aC 0 8)) 21 (aC 0 8)) 17 (.inr (8, objF b [20, 21, 22, 23, 0, 0, 0, 0] (rw1 5 4)))) h0)) (pN b 18 f h0) := by
  refine VM_start (ls := [some (.ref (b + 17))]) rfl ?_
  refine V_aload_n (pc := 0) (i := 0) dX8_init_0 rfl rfl ?_
  refine V_obj (pc := 1) dX8_init_1 cX8_3 w_objI w_objC (by omega) (Nat.le_of_ble_eq_true rfl) ?_
  refine V_aload_n (pc := 4) (i := 0) dX8_init_4 rfl rfl ?_
  refine V_bipush (pc := 5) (v := 8) dX8_init_5 (by decide) ?_
  refine P_newI (pc := 7) (N := 8) dX8_init_7 (by rfl) (by decide) ?_
  refine P_putF (pc := 9) (k := 17) dX8_init_9 fX8_9 ftX8 (fpFR rfl rfl (tyX8_ok 0 (by decide)) rfl rfl) rfl (ownX rfl) (by decide) hf hb ?_
  refine V_aload_n (pc := 12) (i := 0) dX8_init_12 rfl rfl ?_
  refine V_bipush (pc := 13) (v := 8) dX8_init_13 (by decide) ?_
  refine P_newI (pc := 15) (N := 8) dX8_init_15 (by rfl) (by decide) ?_
  refine P_putF (pc := 17) (k := 17) dX8_init_17 fX8_15 ftX8 (fpFR rfl rfl (tyX8_ok 1 (by decide)) rfl rfl) rfl (ownX rfl) (by decide) (by rfl) hb ?_
  refine V_aload_n (pc := 20) (i := 0) dX8_init_20 rfl rfl ?_
  refine V_bipush (pc := 21) (v := 8) dX8_init_21 (by decide) ?_
  refine P_newI (pc := 23) (N := 8) dX8_init_23 (by rfl) (by decide) ?_
  refine P_putF (pc := 25) (k := 17) dX8_init_25 fX8_18 ftX8 (fpFR rfl rfl (tyX8_ok 2 (by decide)) rfl rfl) rfl (ownX rfl) (by decide) (by rfl) hb ?_
  refine V_aload_n (pc := 28) (i := 0) dX8_init_28 rfl rfl ?_
  refine V_bipush (pc := 29) (v := 8) dX8_init_29 (by decide) ?_
  refine P_newI (pc := 31) (N := 8) dX8_init_31 (by rfl) (by decide) ?_
  refine P_putF (pc := 33) (k := 17) dX8_init_33 fX8_21 ftX8 (fpFR rfl rfl (tyX8_ok 3 (by decide)) rfl rfl) rfl (ownX rfl) (by decide) (by rfl) hb ?_
  refine V_aload_n (pc := 36) (i := 0) dX8_init_36 rfl rfl ?_
  refine V_iconst (pc := 37) (v := 0) dX8_init_37 (by decide) ?_
  refine P_put (pc := 38) (k := 17) dX8_init_38 fX8_24 ftX8 (fpI rfl rfl (tyX8_ok 4 (by decide))) (by decide) (by rfl) hb ?_
  refine V_aload_n (pc := 41) (i := 0) dX8_init_41 rfl rfl ?_
  refine V_iconst (pc := 42) (v := 4) dX8_init_42 (by decide) ?_
  refine P_put (pc := 43) (k := 17) dX8_init_43 fX8_28 ftX8 (fpI rfl rfl (tyX8_ok 5 (by decide))) (by decide) (by rfl) hb ?_
  refine V_aload_n (pc := 46) (i := 0) dX8_init_46 rfl rfl ?_
  refine V_iconst (pc := 47) (v := 0) dX8_init_47 (by decide) ?_
  refine P_put (pc := 48) (k := 17) dX8_init_48 fX8_31 ftX8 (fpI rfl rfl (tyX8_ok 6 (by decide))) (by decide) (by rfl) hb ?_
  refine V_aload_n (pc := 51) (i := 0) dX8_init_51 rfl rfl ?_
  refine V_iconst (pc := 52) (v := 0) dX8_init_52 (by decide) ?_
  refine P_put (pc := 53) (k := 17) dX8_init_53 fX8_34 ftX8 (fpI rfl rfl (tyX8_ok 7 (by decide))) (by decide) (by rfl) hb ?_
  exact P_ret (pc := 56) dX8_init_56 rfl (by decide) (fun j hj => by simp only [uC, if_neg hj]) (by rfl) (by rfl) (by exact fl (fl (fl (fl (fl (fl (fl (fl fl0 rfl) rfl) rfl) rfl) rfl) rfl) rfl) rfl)
theorem X0_init_22 {f : Nat → Option xC} (hf : f 22 = some (.inr (0, fun k => defaultValue (tyX0 k)))) (hb : gB G ≤ b) (hd : 1 ≤ d) : VM G mX0_init d 1 1440 [.ref (b + 22)] (xE none (pN b 24 (uC (uC f 23 (aC 0 1440)) 22 (.inr (0, objF b [25, 0, 0] (z0)))) h0)) (pN b 23 f h0) := by
  refine VM_start (ls := [some (.ref (b + 22))]) rfl ?_
  refine V_aload_n (pc := 0) (i := 0) dX0_init_0 rfl rfl ?_
  refine V_obj (pc := 1) dX0_init_1 cX0_3 w_objI w_objC (by omega) (Nat.le_of_ble_eq_true rfl) ?_
  refine V_aload_n (pc := 4) (i := 0) dX0_init_4 rfl rfl ?_
  refine V_sipush (pc := 5) (v := 1440) dX0_init_5 (by decide) ?_
  refine P_newI (pc := 8) (N := 1440) dX0_init_8 (by rfl) (by decide) ?_
  refine P_putF (pc := 10) (k := 22) dX0_init_10 fX0_11 ftX0 (fpFR rfl rfl (tyX0_ok 0 (by decide)) rfl rfl) rfl (ownX rfl) (by decide) hf hb ?_
  refine V_aload_n (pc := 13) (i := 0) dX0_init_13 rfl rfl ?_
  refine V_iconst (pc := 14) (v := 0) dX0_init_14 (by decide) ?_
  refine P_put (pc := 15) (k := 22) dX0_init_15 fX0_17 ftX0 (fpI rfl rfl (tyX0_ok 1 (by decide))) (by decide) (by rfl) hb ?_
  refine V_aload_n (pc := 18) (i := 0) dX0_init_18 rfl rfl ?_
  refine V_iconst (pc := 19) (v := 0) dX0_init_19 (by decide) ?_
  refine P_put (pc := 20) (k := 22) dX0_init_20 fX0_21 ftX0 (fpI rfl rfl (tyX0_ok 2 (by decide))) (by decide) (by rfl) hb ?_
  exact P_ret (pc := 23) dX0_init_23 rfl (by decide) (fun j hj => by simp only [uC, if_neg hj]) (by rfl) (by rfl) (by exact fl (fl (fl fl0 rfl) rfl) rfl)
theorem X5_init_24 {f : Nat → Option xC} (hf : f 24 = some (.inr (5, fun k => defaultValue (tyX5 k)))) (hb : gB G ≤ b) (hd : 1 ≤ d) : VM G mX5_init d 2 16 [.ref (b + 24)] (xE none (pN b 27 (uC (uC (uC f 25 (aC 0 8)) 26 (aC 0 8)) 24 (.inr (5, objF b [27, 28, 0, 0] (z0)))) h0)) (pN b 25 f h0) := by
  refine VM_start (ls := [some (.ref (b + 24))]) rfl ?_
  refine V_aload_n (pc := 0) (i := 0) dX5_init_0 rfl rfl ?_
  refine V_obj (pc := 1) dX5_init_1 cX5_3 w_objI w_objC (by omega) (Nat.le_of_ble_eq_true rfl) ?_
  refine V_aload_n (pc := 4) (i := 0) dX5_init_4 rfl rfl ?_
  refine V_bipush (pc := 5) (v := 8) dX5_init_5 (by decide) ?_
  refine P_newI (pc := 7) (N := 8) dX5_init_7 (by rfl) (by decide) ?_
  refine P_putF (pc := 9) (k := 24) dX5_init_9 fX5_9 ftX5 (fpFR rfl rfl (tyX5_ok 0 (by decide)) rfl rfl) rfl (ownX rfl) (by decide) hf hb ?_
  refine V_aload_n (pc := 12) (i := 0) dX5_init_12 rfl rfl ?_
  refine V_bipush (pc := 13) (v := 8) dX5_init_13 (by decide) ?_
  refine P_newI (pc := 15) (N := 8) dX5_init_15 (by rfl) (by decide) ?_
  refine P_putF (pc := 17) (k := 24) dX5_init_17 fX5_15 ftX5 (fpFR rfl rfl (tyX5_ok 1 (by decide)) rfl rfl) rfl (ownX rfl) (by decide) (by rfl) hb ?_
  refine V_aload_n (pc := 20) (i := 0) dX5_init_20 rfl rfl ?_
  refine V_iconst (pc := 21) (v := 0) dX5_init_21 (by decide) ?_
  refine P_put (pc := 22) (k := 24) dX5_init_22 fX5_18 ftX5 (fpI rfl rfl (tyX5_ok 2 (by decide))) (by decide) (by rfl) hb ?_
  refine V_aload_n (pc := 25) (i := 0) dX5_init_25 rfl rfl ?_
  refine V_iconst (pc := 26) (v := 0) dX5_init_26 (by decide) ?_
  refine P_put (pc := 27) (k := 24) dX5_init_27 fX5_22 ftX5 (fpI rfl rfl (tyX5_ok 3 (by decide))) (by decide) (by rfl) hb ?_
  exact P_ret (pc := 30) dX5_init_30 rfl (by decide) (fun j hj => by simp only [uC, if_neg hj]) (by rfl) (by rfl) (by exact fl (fl (fl (fl fl0 rfl) rfl) rfl) rfl)
theorem X8_init_29 {f : Nat → Option xC} (hf : f 29 = some (.inr (8, fun k => defaultValue (tyX8 k)))) (hb : gB G ≤ b) (hd : 1 ≤ d) : VM G mX8_init d 4 32 [.ref (b + 29)] (xE none (pN b 34 (uC (uC (uC (uC (uC f 30 (aC 0 8)) 31 (aC 0 8)) 32 (aC 0 8)) 33 (aC 0 8)) 29 (.inr (8, objF b [32, 33, 34, 35, 0, 0, 0, 0] (rw1 5 4)))) h0)) (pN b 30 f h0) := by
  refine VM_start (ls := [some (.ref (b + 29))]) rfl ?_
  refine V_aload_n (pc := 0) (i := 0) dX8_init_0 rfl rfl ?_
  refine V_obj (pc := 1) dX8_init_1 cX8_3 w_objI w_objC (by omega) (Nat.le_of_ble_eq_true rfl) ?_
  refine V_aload_n (pc := 4) (i := 0) dX8_init_4 rfl rfl ?_
  refine V_bipush (pc := 5) (v := 8) dX8_init_5 (by decide) ?_
  refine P_newI (pc := 7) (N := 8) dX8_init_7 (by rfl) (by decide) ?_
  refine P_putF (pc := 9) (k := 29) dX8_init_9 fX8_9 ftX8 (fpFR rfl rfl (tyX8_ok 0 (by decide)) rfl rfl) rfl (ownX rfl) (by decide) hf hb ?_
  refine V_aload_n (pc := 12) (i := 0) dX8_init_12 rfl rfl ?_
  refine V_bipush (pc := 13) (v := 8) dX8_init_13 (by decide) ?_
  refine P_newI (pc := 15) (N := 8) dX8_init_15 (by rfl) (by decide) ?_
  refine P_putF (pc := 17) (k := 29) dX8_init_17 fX8_15 ftX8 (fpFR rfl rfl (tyX8_ok 1 (by decide)) rfl rfl) rfl (ownX rfl) (by decide) (by rfl) hb ?_
  refine V_aload_n (pc := 20) (i := 0) dX8_init_20 rfl rfl ?_
  refine V_bipush (pc := 21) (v := 8) dX8_init_21 (by decide) ?_
  refine P_newI (pc := 23) (N := 8) dX8_init_23 (by rfl) (by decide) ?_
  refine P_putF (pc := 25) (k := 29) dX8_init_25 fX8_18 ftX8 (fpFR rfl rfl (tyX8_ok 2 (by decide)) rfl rfl) rfl (ownX rfl) (by decide) (by rfl) hb ?_
  refine V_aload_n (pc := 28) (i := 0) dX8_init_28 rfl rfl ?_
  refine V_bipush (pc := 29) (v := 8) dX8_init_29 (by decide) ?_
  refine P_newI (pc := 31) (N := 8) dX8_init_31 (by rfl) (by decide) ?_
  refine P_putF (pc := 33) (k := 29) dX8_init_33 fX8_21 ftX8 (fpFR rfl rfl (tyX8_ok 3 (by decide)) rfl rfl) rfl (ownX rfl) (by decide) (by rfl) hb ?_
  refine V_aload_n (pc := 36) (i := 0) dX8_init_36 rfl rfl ?_
  refine V_iconst (pc := 37) (v := 0) dX8_init_37 (by decide) ?_
  refine P_put (pc := 38) (k := 29) dX8_init_38 fX8_24 ftX8 (fpI rfl rfl (tyX8_ok 4 (by decide))) (by decide) (by rfl) hb ?_
  refine V_aload_n (pc := 41) (i := 0) dX8_init_41 rfl rfl ?_
  refine V_iconst (pc := 42) (v := 4) dX8_init_42 (by decide) ?_
  refine P_put (pc := 43) (k := 29) dX8_init_43 fX8_28 ftX8 (fpI rfl rfl (tyX8_ok 5 (by decide))) (by decide) (by rfl) hb ?_
  refine V_aload_n (pc := 46) (i := 0) dX8_init_46 rfl rfl ?_
  refine V_iconst (pc := 47) (v := 0) dX8_init_47 (by decide) ?_
  refine P_put (pc := 48) (k := 29) dX8_init_48 fX8_31 ftX8 (fpI rfl rfl (tyX8_ok 6 (by decide))) (by decide) (by rfl) hb ?_
  refine V_aload_n (pc := 51) (i := 0) dX8_init_51 rfl rfl ?_
  refine V_iconst (pc := 52) (v := 0) dX8_init_52 (by decide) ?_
  refine P_put (pc := 53) (k := 29) dX8_init_53 fX8_34 ftX8 (fpI rfl rfl (tyX8_ok 7 (by decide))) (by decide) (by rfl) hb ?_
  exact P_ret (pc := 56) dX8_init_56 rfl (by decide) (fun j hj => by simp only [uC, if_neg hj]) (by rfl) (by rfl) (by exact fl (fl (fl (fl (fl (fl (fl (fl fl0 rfl) rfl) rfl) rfl) rfl) rfl) rfl) rfl)
theorem X0_init_34 {f : Nat → Option xC} (hf : f 34 = some (.inr (0, fun k => defaultValue (tyX0 k)))) (hb : gB G ≤ b) (hd : 1 ≤ d) : VM G mX0_init d 1 1440 [.ref (b + 34)] (xE none (pN b 36 (uC (uC f 35 (aC 0 1440)) 34 (.inr (0, objF b [37, 0, 0] (z0)))) h0)) (pN b 35 f h0) := by
  refine VM_start (ls := [some (.ref (b + 34))]) rfl ?_
  refine V_aload_n (pc := 0) (i := 0) dX0_init_0 rfl rfl ?_
  refine V_obj (pc := 1) dX0_init_1 cX0_3 w_objI w_objC (by omega) (Nat.le_of_ble_eq_true rfl) ?_
  refine V_aload_n (pc := 4) (i := 0) dX0_init_4 rfl rfl ?_
  refine V_sipush (pc := 5) (v := 1440) dX0_init_5 (by decide) ?_
  refine P_newI (pc := 8) (N := 1440) dX0_init_8 (by rfl) (by decide) ?_
  refine P_putF (pc := 10) (k := 34) dX0_init_10 fX0_11 ftX0 (fpFR rfl rfl (tyX0_ok 0 (by decide)) rfl rfl) rfl (ownX rfl) (by decide) hf hb ?_
  refine V_aload_n (pc := 13) (i := 0) dX0_init_13 rfl rfl ?_
  refine V_iconst (pc := 14) (v := 0) dX0_init_14 (by decide) ?_
  refine P_put (pc := 15) (k := 34) dX0_init_15 fX0_17 ftX0 (fpI rfl rfl (tyX0_ok 1 (by decide))) (by decide) (by rfl) hb ?_
  refine V_aload_n (pc := 18) (i := 0) dX0_init_18 rfl rfl ?_
  refine V_iconst (pc := 19) (v := 0) dX0_init_19 (by decide) ?_
  refine P_put (pc := 20) (k := 34) dX0_init_20 fX0_21 ftX0 (fpI rfl rfl (tyX0_ok 2 (by decide))) (by decide) (by rfl) hb ?_
  exact P_ret (pc := 23) dX0_init_23 rfl (by decide) (fun j hj => by simp only [uC, if_neg hj]) (by rfl) (by rfl) (by exact fl (fl (fl fl0 rfl) rfl) rfl)
theorem X5_init_36 {f : Nat → Option xC} (hf : f 36 = some (.inr (5, fun k => defaultValue (tyX5 k)))) (hb : gB G ≤ b) (hd : 1 ≤ d) : VM G mX5_init d 2 16 [.ref (b + 36)] (xE none (pN b 39 (uC (uC (uC f 37 (aC 0 8)) 38 (aC 0 8)) 36 (.inr (5, objF b [39, 40, 0, 0] (z0)))) h0)) (pN b 37 f h0) := by
  refine VM_start (ls := [some (.ref (b + 36))]) rfl ?_
  refine V_aload_n (pc := 0) (i := 0) dX5_init_0 rfl rfl ?_
  refine V_obj (pc := 1) dX5_init_1 cX5_3 w_objI w_objC (by omega) (Nat.le_of_ble_eq_true rfl) ?_
  refine V_aload_n (pc := 4) (i := 0) dX5_init_4 rfl rfl ?_
  refine V_bipush (pc := 5) (v := 8) dX5_init_5 (by decide) ?_
  refine P_newI (pc := 7) (N := 8) dX5_init_7 (by rfl) (by decide) ?_
  refine P_putF (pc := 9) (k := 36) dX5_init_9 fX5_9 ftX5 (fpFR rfl rfl (tyX5_ok 0 (by decide)) rfl rfl) rfl (ownX rfl) (by decide) hf hb ?_
  refine V_aload_n (pc := 12) (i := 0) dX5_init_12 rfl rfl ?_
  refine V_bipush (pc := 13) (v := 8) dX5_init_13 (by decide) ?_
  refine P_newI (pc := 15) (N := 8) dX5_init_15 (by rfl) (by decide) ?_
  refine P_putF (pc := 17) (k := 36) dX5_init_17 fX5_15 ftX5 (fpFR rfl rfl (tyX5_ok 1 (by decide)) rfl rfl) rfl (ownX rfl) (by decide) (by rfl) hb ?_
  refine V_aload_n (pc := 20) (i := 0) dX5_init_20 rfl rfl ?_
  refine V_iconst (pc := 21) (v := 0) dX5_init_21 (by decide) ?_
  refine P_put (pc := 22) (k := 36) dX5_init_22 fX5_18 ftX5 (fpI rfl rfl (tyX5_ok 2 (by decide))) (by decide) (by rfl) hb ?_
  refine V_aload_n (pc := 25) (i := 0) dX5_init_25 rfl rfl ?_
  refine V_iconst (pc := 26) (v := 0) dX5_init_26 (by decide) ?_
  refine P_put (pc := 27) (k := 36) dX5_init_27 fX5_22 ftX5 (fpI rfl rfl (tyX5_ok 3 (by decide))) (by decide) (by rfl) hb ?_
  exact P_ret (pc := 30) dX5_init_30 rfl (by decide) (fun j hj => by simp only [uC, if_neg hj]) (by rfl) (by rfl) (by exact fl (fl (fl (fl fl0 rfl) rfl) rfl) rfl)
theorem X2_init_28 {f : Nat → Option xC} (hf : f 28 = some (.inr (2, fun k => defaultValue (tyX2 k)))) (hb : gB G ≤ b) (hd : 2 ≤ d) : VM G mX2_init d 11 1506 [.ref (b + 28)] (xE none (pN b 40 (uC (uC (uC (uC (uC (uC (uC (uC (uC (uC (uC (uC (uC (uC (uC f 29 (.inr (8, fun k => defaultValue (tyX8 k)))) 30 (aC 0 8)) 31 (aC 0 8)) 32 (aC 0 8)) 33 (aC 0 8)) 29 (.inr (8, objF b [32, 33, 34, 35, 0, 0, 0, 0] (rw1 5 4)))) 34 (.inr (0, fun k => defaultValue (tyX0 k)))) 35 (aC 0 1440)) 34 (.inr (0, objF b [37, 0, 0] (z0)))) 36 (.inr (5, fun k => defaultValue (tyX5 k)))) 37 (aC 0 8)) 38 (aC 0 8)) 36 (.inr (5, objF b [39, 40, 0, 0] (z0)))) 39 (aC 0 3)) 28 (.inr (2, objF b [31, 36, 38, 41, 0] (z0)))) h0)) (pN b 29 f h0) := by
  refine VM_start (ls := [some (.ref (b + 28))]) rfl ?_
  refine V_aload_n (pc := 0) (i := 0) dX2_init_0 rfl rfl ?_
  refine V_obj (pc := 1) dX2_init_1 cX2_3 w_objI w_objC (by omega) (Nat.le_of_ble_eq_true rfl) ?_
  refine V_aload_n (pc := 4) (i := 0) dX2_init_4 rfl rfl ?_
  refine P_new (pc := 5) (N := 8) dX2_init_5 nX2_9 ?_
  refine V_dup (pc := 8) dX2_init_8 rfl ?_
  refine P_cIN (pc := 9) (mc := 4) (ms := 32) dX2_init_9 cX2_11 (X8_init_29 (d := 1) (by rfl) hb (by omega)) (Nat.le_of_ble_eq_true rfl) (by omega) (Nat.le_of_ble_eq_true rfl) ?_
  refine P_putF (pc := 12) (k := 28) dX2_init_12 fX2_12 ftX2 (fpFR rfl rfl (tyX2_ok 0 (by decide)) rfl rfl) rfl (ownX rfl) (by decide) hf hb ?_
  refine V_aload_n (pc := 15) (i := 0) dX2_init_15 rfl rfl ?_
  refine P_new (pc := 16) (N := 3) dX2_init_16 nX2_18 ?_
  refine V_dup (pc := 19) dX2_init_19 rfl ?_
  refine P_cIN (pc := 20) (mc := 1) (ms := 1440) dX2_init_20 cX2_20 (X0_init_34 (d := 1) (by rfl) hb (by omega)) (Nat.le_of_ble_eq_true rfl) (by omega) (Nat.le_of_ble_eq_true rfl) ?_
  refine P_putF (pc := 23) (k := 28) dX2_init_23 fX2_21 ftX2 (fpFR rfl rfl (tyX2_ok 1 (by decide)) rfl rfl) rfl (ownX rfl) (by decide) (by rfl) hb ?_
  refine V_aload_n (pc := 26) (i := 0) dX2_init_26 rfl rfl ?_
  refine P_new (pc := 27) (N := 4) dX2_init_27 nX2_25 ?_
  refine V_dup (pc := 30) dX2_init_30 rfl ?_
  refine P_cIN (pc := 31) (mc := 2) (ms := 16) dX2_init_31 cX2_27 (X5_init_36 (d := 1) (by rfl) hb (by omega)) (Nat.le_of_ble_eq_true rfl) (by omega) (Nat.le_of_ble_eq_true rfl) ?_
  refine P_putF (pc := 34) (k := 28) dX2_init_34 fX2_28 ftX2 (fpFR rfl rfl (tyX2_ok 2 (by decide)) rfl rfl) rfl (ownX rfl) (by decide) (by rfl) hb ?_
  refine V_aload_n (pc := 37) (i := 0) dX2_init_37 rfl rfl ?_
  refine V_iconst (pc := 38) (v := 3) dX2_init_38 (by decide) ?_
  refine P_newI (pc := 39) (N := 3) dX2_init_39 (by rfl) (by decide) ?_
  refine P_putF (pc := 41) (k := 28) dX2_init_41 fX2_32 ftX2 (fpFR rfl rfl (tyX2_ok 3 (by decide)) rfl rfl) rfl (ownX rfl) (by decide) (by rfl) hb ?_
  refine V_aload_n (pc := 44) (i := 0) dX2_init_44 rfl rfl ?_
  refine V_iconst (pc := 45) (v := 0) dX2_init_45 (by decide) ?_
  refine P_put (pc := 46) (k := 28) dX2_init_46 fX2_36 ftX2 (fpZ rfl rfl (tyX2_ok 4 (by decide)) (Or.inl rfl)) (by decide) (by rfl) hb ?_
  exact P_ret (pc := 49) dX2_init_49 rfl (by decide) (fun j hj => by simp only [uC, if_neg hj]) (by rfl) (by rfl) (by exact fl (fl (fl (fl (fl fl0 rfl) rfl) rfl) rfl) rfl)
theorem X6_init_40 {f : Nat → Option xC} (hf : f 40 = some (.inr (6, fun k => defaultValue (tyX6 k)))) (hb : gB G ≤ b) (hd : 1 ≤ d) : VM G mX6_init d 2 2048 [.ref (b + 40)] (xE none (pN b 43 (uC (uC (uC f 41 (aC 0 1024)) 42 (aC 0 1024)) 40 (.inr (6, objF b [43, 44] (z0)))) h0)) (pN b 41 f h0) := by
  refine VM_start (ls := [some (.ref (b + 40))]) rfl ?_
  refine V_aload_n (pc := 0) (i := 0) dX6_init_0 rfl rfl ?_
  refine V_obj (pc := 1) dX6_init_1 cX6_3 w_objI w_objC (by omega) (Nat.le_of_ble_eq_true rfl) ?_
  refine V_aload_n (pc := 4) (i := 0) dX6_init_4 rfl rfl ?_
  refine V_sipush (pc := 5) (v := 1024) dX6_init_5 (by decide) ?_
  refine P_newI (pc := 8) (N := 1024) dX6_init_8 (by rfl) (by decide) ?_
  refine P_putF (pc := 10) (k := 40) dX6_init_10 fX6_9 ftX6 (fpFR rfl rfl (tyX6_ok 0 (by decide)) rfl rfl) rfl (ownX rfl) (by decide) hf hb ?_
  refine V_aload_n (pc := 13) (i := 0) dX6_init_13 rfl rfl ?_
  refine V_sipush (pc := 14) (v := 1024) dX6_init_14 (by decide) ?_
  refine P_newI (pc := 17) (N := 1024) dX6_init_17 (by rfl) (by decide) ?_
  refine P_putF (pc := 19) (k := 40) dX6_init_19 fX6_15 ftX6 (fpFR rfl rfl (tyX6_ok 1 (by decide)) rfl rfl) rfl (ownX rfl) (by decide) (by rfl) hb ?_
  exact P_ret (pc := 22) dX6_init_22 rfl (by decide) (fun j hj => by simp only [uC, if_neg hj]) (by rfl) (by rfl) (by exact fl (fl fl0 rfl) rfl)
theorem X1_init_46 {f : Nat → Option xC} (hf : f 46 = some (.inr (1, fun k => defaultValue (tyX1 k)))) (hb : gB G ≤ b) (hd : 1 ≤ d) : VM G mX1_init d 3 36 [.ref (b + 46)] (xE none (pN b 50 (uC (uC (uC (uC f 47 (aC 0 12)) 48 (aC 0 12)) 49 (aC 0 12)) 46 (.inr (1, objF b [49, 50, 51, 0, 0] (z0)))) h0)) (pN b 47 f h0) := by
  refine VM_start (ls := [some (.ref (b + 46))]) rfl ?_
  refine V_aload_n (pc := 0) (i := 0) dX1_init_0 rfl rfl ?_
  refine V_obj (pc := 1) dX1_init_1 cX1_3 w_objI w_objC (by omega) (Nat.le_of_ble_eq_true rfl) ?_
  refine V_aload_n (pc := 4) (i := 0) dX1_init_4 rfl rfl ?_
  refine V_bipush (pc := 5) (v := 12) dX1_init_5 (by decide) ?_
  refine P_newI (pc := 7) (N := 12) dX1_init_7 (by rfl) (by decide) ?_
  refine P_putF (pc := 9) (k := 46) dX1_init_9 fX1_9 ftX1 (fpFR rfl rfl (tyX1_ok 0 (by decide)) rfl rfl) rfl (ownX rfl) (by decide) hf hb ?_
  refine V_aload_n (pc := 12) (i := 0) dX1_init_12 rfl rfl ?_
  refine V_bipush (pc := 13) (v := 12) dX1_init_13 (by decide) ?_
  refine P_newI (pc := 15) (N := 12) dX1_init_15 (by rfl) (by decide) ?_
  refine P_putF (pc := 17) (k := 46) dX1_init_17 fX1_15 ftX1 (fpFR rfl rfl (tyX1_ok 1 (by decide)) rfl rfl) rfl (ownX rfl) (by decide) (by rfl) hb ?_
  refine V_aload_n (pc := 20) (i := 0) dX1_init_20 rfl rfl ?_
  refine V_bipush (pc := 21) (v := 12) dX1_init_21 (by decide) ?_
  refine P_newI (pc := 23) (N := 12) dX1_init_23 (by rfl) (by decide) ?_
  refine P_putF (pc := 25) (k := 46) dX1_init_25 fX1_18 ftX1 (fpFR rfl rfl (tyX1_ok 2 (by decide)) rfl rfl) rfl (ownX rfl) (by decide) (by rfl) hb ?_
  refine V_aload_n (pc := 28) (i := 0) dX1_init_28 rfl rfl ?_
  refine V_iconst (pc := 29) (v := 0) dX1_init_29 (by decide) ?_
  refine P_put (pc := 30) (k := 46) dX1_init_30 fX1_21 ftX1 (fpI rfl rfl (tyX1_ok 3 (by decide))) (by decide) (by rfl) hb ?_
  refine V_aload_n (pc := 33) (i := 0) dX1_init_33 rfl rfl ?_
  refine V_iconst (pc := 34) (v := 0) dX1_init_34 (by decide) ?_
  refine P_put (pc := 35) (k := 46) dX1_init_35 fX1_25 ftX1 (fpI rfl rfl (tyX1_ok 4 (by decide))) (by decide) (by rfl) hb ?_
  exact P_ret (pc := 38) dX1_init_38 rfl (by decide) (fun j hj => by simp only [uC, if_neg hj]) (by rfl) (by rfl) (by exact fl (fl (fl (fl (fl fl0 rfl) rfl) rfl) rfl) rfl)
theorem X4_init_50 {f : Nat → Option xC} (hf : f 50 = some (.inr (4, fun k => defaultValue (tyX4 k)))) (hb : gB G ≤ b) (hd : 1 ≤ d) : VM G mX4_init d 2 764 [.ref (b + 50)] (xE none (pN b 53 (uC (uC (uC f 51 (aC 0 700)) 52 (aC 0 64)) 50 (.inr (4, objF b [53, 54, 0] (z0)))) h0)) (pN b 51 f h0) := by
  refine VM_start (ls := [some (.ref (b + 50))]) rfl ?_
  refine V_aload_n (pc := 0) (i := 0) dX4_init_0 rfl rfl ?_
  refine V_obj (pc := 1) dX4_init_1 cX4_3 w_objI w_objC (by omega) (Nat.le_of_ble_eq_true rfl) ?_
  refine V_aload_n (pc := 4) (i := 0) dX4_init_4 rfl rfl ?_
  refine V_sipush (pc := 5) (v := 700) dX4_init_5 (by decide) ?_
  refine P_newI (pc := 8) (N := 700) dX4_init_8 (by rfl) (by decide) ?_
  refine P_putF (pc := 10) (k := 50) dX4_init_10 fX4_9 ftX4 (fpFR rfl rfl (tyX4_ok 0 (by decide)) rfl rfl) rfl (ownX rfl) (by decide) hf hb ?_
  refine V_aload_n (pc := 13) (i := 0) dX4_init_13 rfl rfl ?_
  refine V_bipush (pc := 14) (v := 64) dX4_init_14 (by decide) ?_
  refine P_newI (pc := 16) (N := 64) dX4_init_16 (by rfl) (by decide) ?_
  refine P_putF (pc := 18) (k := 50) dX4_init_18 fX4_15 ftX4 (fpFR rfl rfl (tyX4_ok 1 (by decide)) rfl rfl) rfl (ownX rfl) (by decide) (by rfl) hb ?_
  exact P_ret (pc := 21) dX4_init_21 rfl (by decide) (fun j hj => by simp only [uC, if_neg hj]) (by rfl) (by rfl) (by exact fl (fl (fl fl0 rfl) rfl) rfl)
theorem X7_init_44 {f : Nat → Option xC} (hf : f 44 = some (.inr (7, fun k => defaultValue (tyX7 k)))) (hb : gB G ≤ b) (hd : 2 ≤ d) : VM G mX7_init d 12 850 [.ref (b + 44)] (xE none (pN b 57 (uC (uC (uC (uC (uC (uC (uC (uC (uC (uC (uC (uC (uC (uC (uC f 45 (aC 0 10)) 46 (.inr (1, fun k => defaultValue (tyX1 k)))) 47 (aC 0 12)) 48 (aC 0 12)) 49 (aC 0 12)) 46 (.inr (1, objF b [49, 50, 51, 0, 0] (z0)))) 50 (.inr (4, fun k => defaultValue (tyX4 k)))) 51 (aC 0 700)) 52 (aC 0 64)) 50 (.inr (4, objF b [53, 54, 0] (z0)))) 53 (aC 0 8)) 54 (aC 0 8)) 55 (aC 0 8)) 56 (aC 0 8)) 44 (.inr (7, objF b [47, 48, 52, 55, 56, 57, 58, 0, 0, 0, 0] (rw1 9 4)))) h0)) (pN b 45 f h0) := by
  refine VM_start (ls := [some (.ref (b + 44))]) rfl ?_
  refine V_aload_n (pc := 0) (i := 0) dX7_init_0 rfl rfl ?_
  refine V_obj (pc := 1) dX7_init_1 cX7_3 w_objI w_objC (by omega) (Nat.le_of_ble_eq_true rfl) ?_
  refine V_aload_n (pc := 4) (i := 0) dX7_init_4 rfl rfl ?_
  refine V_bipush (pc := 5) (v := 10) dX7_init_5 (by decide) ?_
  refine P_newI (pc := 7) (N := 10) dX7_init_7 (by rfl) (by decide) ?_
  refine P_putF (pc := 9) (k := 44) dX7_init_9 fX7_9 ftX7 (fpFR rfl rfl (tyX7_ok 0 (by decide)) rfl rfl) rfl (ownX rfl) (by decide) hf hb ?_
  refine V_aload_n (pc := 12) (i := 0) dX7_init_12 rfl rfl ?_
  refine P_new (pc := 13) (N := 5) dX7_init_13 nX7_15 ?_
  refine V_dup (pc := 16) dX7_init_16 rfl ?_
  refine P_cIN (pc := 17) (mc := 3) (ms := 36) dX7_init_17 cX7_17 (X1_init_46 (d := 1) (by rfl) hb (by omega)) (Nat.le_of_ble_eq_true rfl) (by omega) (Nat.le_of_ble_eq_true rfl) ?_
  refine P_putF (pc := 20) (k := 44) dX7_init_20 fX7_18 ftX7 (fpFR rfl rfl (tyX7_ok 1 (by decide)) rfl rfl) rfl (ownX rfl) (by decide) (by rfl) hb ?_
  refine V_aload_n (pc := 23) (i := 0) dX7_init_23 rfl rfl ?_
  refine P_new (pc := 24) (N := 3) dX7_init_24 nX7_22 ?_
  refine V_dup (pc := 27) dX7_init_27 rfl ?_
  refine P_cIN (pc := 28) (mc := 2) (ms := 764) dX7_init_28 cX7_24 (X4_init_50 (d := 1) (by rfl) hb (by omega)) (Nat.le_of_ble_eq_true rfl) (by omega) (Nat.le_of_ble_eq_true rfl) ?_
  refine P_putF (pc := 31) (k := 44) dX7_init_31 fX7_25 ftX7 (fpFR rfl rfl (tyX7_ok 2 (by decide)) rfl rfl) rfl (ownX rfl) (by decide) (by rfl) hb ?_
  refine V_aload_n (pc := 34) (i := 0) dX7_init_34 rfl rfl ?_
  refine V_bipush (pc := 35) (v := 8) dX7_init_35 (by decide) ?_
  refine P_newI (pc := 37) (N := 8) dX7_init_37 (by rfl) (by decide) ?_
  refine P_putF (pc := 39) (k := 44) dX7_init_39 fX7_29 ftX7 (fpFR rfl rfl (tyX7_ok 3 (by decide)) rfl rfl) rfl (ownX rfl) (by decide) (by rfl) hb ?_
  refine V_aload_n (pc := 42) (i := 0) dX7_init_42 rfl rfl ?_
  refine V_bipush (pc := 43) (v := 8) dX7_init_43 (by decide) ?_
  refine P_newI (pc := 45) (N := 8) dX7_init_45 (by rfl) (by decide) ?_
  refine P_putF (pc := 47) (k := 44) dX7_init_47 fX7_32 ftX7 (fpFR rfl rfl (tyX7_ok 4 (by decide)) rfl rfl) rfl (ownX rfl) (by decide) (by rfl) hb ?_
  refine V_aload_n (pc := 50) (i := 0) dX7_init_50 rfl rfl ?_
  refine V_bipush (pc := 51) (v := 8) dX7_init_51 (by decide) ?_
  refine P_newI (pc := 53) (N := 8) dX7_init_53 (by rfl) (by decide) ?_
  refine P_putF (pc := 55) (k := 44) dX7_init_55 fX7_35 ftX7 (fpFR rfl rfl (tyX7_ok 5 (by decide)) rfl rfl) rfl (ownX rfl) (by decide) (by rfl) hb ?_
  refine V_aload_n (pc := 58) (i := 0) dX7_init_58 rfl rfl ?_
  refine V_bipush (pc := 59) (v := 8) dX7_init_59 (by decide) ?_
  refine P_newI (pc := 61) (N := 8) dX7_init_61 (by rfl) (by decide) ?_
  refine P_putF (pc := 63) (k := 44) dX7_init_63 fX7_38 ftX7 (fpFR rfl rfl (tyX7_ok 6 (by decide)) rfl rfl) rfl (ownX rfl) (by decide) (by rfl) hb ?_
  refine V_aload_n (pc := 66) (i := 0) dX7_init_66 rfl rfl ?_
  refine V_iconst (pc := 67) (v := 0) dX7_init_67 (by decide) ?_
  refine P_put (pc := 68) (k := 44) dX7_init_68 fX7_41 ftX7 (fpI rfl rfl (tyX7_ok 7 (by decide))) (by decide) (by rfl) hb ?_
  refine V_aload_n (pc := 71) (i := 0) dX7_init_71 rfl rfl ?_
  refine V_iconst (pc := 72) (v := 0) dX7_init_72 (by decide) ?_
  refine P_put (pc := 73) (k := 44) dX7_init_73 fX7_45 ftX7 (fpI rfl rfl (tyX7_ok 8 (by decide))) (by decide) (by rfl) hb ?_
  refine V_aload_n (pc := 76) (i := 0) dX7_init_76 rfl rfl ?_
  refine V_iconst (pc := 77) (v := 4) dX7_init_77 (by decide) ?_
  refine P_put (pc := 78) (k := 44) dX7_init_78 fX7_48 ftX7 (fpI rfl rfl (tyX7_ok 9 (by decide))) (by decide) (by rfl) hb ?_
  refine V_aload_n (pc := 81) (i := 0) dX7_init_81 rfl rfl ?_
  refine V_iconst (pc := 82) (v := 0) dX7_init_82 (by decide) ?_
  refine P_put (pc := 83) (k := 44) dX7_init_83 fX7_51 ftX7 (fpZ rfl rfl (tyX7_ok 10 (by decide)) (Or.inl rfl)) (by decide) (by rfl) hb ?_
  exact P_ret (pc := 86) dX7_init_86 rfl (by decide) (fun j hj => by simp only [uC, if_neg hj]) (by rfl) (by rfl) (by exact fl (fl (fl (fl (fl (fl (fl (fl (fl (fl (fl fl0 rfl) rfl) rfl) rfl) rfl) rfl) rfl) rfl) rfl) rfl) rfl)
theorem X8_init_58 {f : Nat → Option xC} (hf : f 58 = some (.inr (8, fun k => defaultValue (tyX8 k)))) (hb : gB G ≤ b) (hd : 1 ≤ d) : VM G mX8_init d 4 32 [.ref (b + 58)] (xE none (pN b 63 (uC (uC (uC (uC (uC f 59 (aC 0 8)) 60 (aC 0 8)) 61 (aC 0 8)) 62 (aC 0 8)) 58 (.inr (8, objF b [61, 62, 63, 64, 0, 0, 0, 0] (rw1 5 4)))) h0)) (pN b 59 f h0) := by
  refine VM_start (ls := [some (.ref (b + 58))]) rfl ?_
  refine V_aload_n (pc := 0) (i := 0) dX8_init_0 rfl rfl ?_
  refine V_obj (pc := 1) dX8_init_1 cX8_3 w_objI w_objC (by omega) (Nat.le_of_ble_eq_true rfl) ?_
  refine V_aload_n (pc := 4) (i := 0) dX8_init_4 rfl rfl ?_
  refine V_bipush (pc := 5) (v := 8) dX8_init_5 (by decide) ?_
  refine P_newI (pc := 7) (N := 8) dX8_init_7 (by rfl) (by decide) ?_
  refine P_putF (pc := 9) (k := 58) dX8_init_9 fX8_9 ftX8 (fpFR rfl rfl (tyX8_ok 0 (by decide)) rfl rfl) rfl (ownX rfl) (by decide) hf hb ?_
  refine V_aload_n (pc := 12) (i := 0) dX8_init_12 rfl rfl ?_
  refine V_bipush (pc := 13) (v := 8) dX8_init_13 (by decide) ?_
  refine P_newI (pc := 15) (N := 8) dX8_init_15 (by rfl) (by decide) ?_
  refine P_putF (pc := 17) (k := 58) dX8_init_17 fX8_15 ftX8 (fpFR rfl rfl (tyX8_ok 1 (by decide)) rfl rfl) rfl (ownX rfl) (by decide) (by rfl) hb ?_
  refine V_aload_n (pc := 20) (i := 0) dX8_init_20 rfl rfl ?_
  refine V_bipush (pc := 21) (v := 8) dX8_init_21 (by decide) ?_
  refine P_newI (pc := 23) (N := 8) dX8_init_23 (by rfl) (by decide) ?_
  refine P_putF (pc := 25) (k := 58) dX8_init_25 fX8_18 ftX8 (fpFR rfl rfl (tyX8_ok 2 (by decide)) rfl rfl) rfl (ownX rfl) (by decide) (by rfl) hb ?_
  refine V_aload_n (pc := 28) (i := 0) dX8_init_28 rfl rfl ?_
  refine V_bipush (pc := 29) (v := 8) dX8_init_29 (by decide) ?_
  refine P_newI (pc := 31) (N := 8) dX8_init_31 (by rfl) (by decide) ?_
  refine P_putF (pc := 33) (k := 58) dX8_init_33 fX8_21 ftX8 (fpFR rfl rfl (tyX8_ok 3 (by decide)) rfl rfl) rfl (ownX rfl) (by decide) (by rfl) hb ?_
  refine V_aload_n (pc := 36) (i := 0) dX8_init_36 rfl rfl ?_
  refine V_iconst (pc := 37) (v := 0) dX8_init_37 (by decide) ?_
  refine P_put (pc := 38) (k := 58) dX8_init_38 fX8_24 ftX8 (fpI rfl rfl (tyX8_ok 4 (by decide))) (by decide) (by rfl) hb ?_
  refine V_aload_n (pc := 41) (i := 0) dX8_init_41 rfl rfl ?_
  refine V_iconst (pc := 42) (v := 4) dX8_init_42 (by decide) ?_
  refine P_put (pc := 43) (k := 58) dX8_init_43 fX8_28 ftX8 (fpI rfl rfl (tyX8_ok 5 (by decide))) (by decide) (by rfl) hb ?_
  refine V_aload_n (pc := 46) (i := 0) dX8_init_46 rfl rfl ?_
  refine V_iconst (pc := 47) (v := 0) dX8_init_47 (by decide) ?_
  refine P_put (pc := 48) (k := 58) dX8_init_48 fX8_31 ftX8 (fpI rfl rfl (tyX8_ok 6 (by decide))) (by decide) (by rfl) hb ?_
  refine V_aload_n (pc := 51) (i := 0) dX8_init_51 rfl rfl ?_
  refine V_iconst (pc := 52) (v := 0) dX8_init_52 (by decide) ?_
  refine P_put (pc := 53) (k := 58) dX8_init_53 fX8_34 ftX8 (fpI rfl rfl (tyX8_ok 7 (by decide))) (by decide) (by rfl) hb ?_
  exact P_ret (pc := 56) dX8_init_56 rfl (by decide) (fun j hj => by simp only [uC, if_neg hj]) (by rfl) (by rfl) (by exact fl (fl (fl (fl (fl (fl (fl (fl fl0 rfl) rfl) rfl) rfl) rfl) rfl) rfl) rfl)
theorem X10_init_57 {f : Nat → Option xC} (hf : f 57 = some (.inr (10, fun k => defaultValue (tyX10 k)))) (hb : gB G ≤ b) (hd : 2 ≤ d) : VM G mX10_init d 10 79 [.ref (b + 57), .ref (b + 44)] (xE none (pN b 68 (uC (uC (uC (uC (uC (uC (uC (uC (uC (uC (uC (uC f 58 (.inr (8, fun k => defaultValue (tyX8 k)))) 59 (aC 0 8)) 60 (aC 0 8)) 61 (aC 0 8)) 62 (aC 0 8)) 58 (.inr (8, objF b [61, 62, 63, 64, 0, 0, 0, 0] (rw1 5 4)))) 63 (aC 0 8)) 64 (aC 0 8)) 65 (aC 0 8)) 66 (aC 0 8)) 67 (aC 0 7)) 57 (.inr (10, objF b [60, 65, 66, 67, 68, 69, 1, 0] (z0)))) h0)) (pN b 58 f h0) := by
  refine VM_start (ls := [some (.ref (b + 57)), some (.ref (b + 44))]) rfl ?_
  refine V_aload_n (pc := 0) (i := 0) dX10_init_0 rfl rfl ?_
  refine V_obj (pc := 1) dX10_init_1 cX10_3 w_objI w_objC (by omega) (Nat.le_of_ble_eq_true rfl) ?_
  refine V_aload_n (pc := 4) (i := 0) dX10_init_4 rfl rfl ?_
  refine P_new (pc := 5) (N := 8) dX10_init_5 nX10_9 ?_
  refine V_dup (pc := 8) dX10_init_8 rfl ?_
  refine P_cIN (pc := 9) (mc := 4) (ms := 32) dX10_init_9 cX10_11 (X8_init_58 (d := 1) (by rfl) hb (by omega)) (Nat.le_of_ble_eq_true rfl) (by omega) (Nat.le_of_ble_eq_true rfl) ?_
  refine P_putF (pc := 12) (k := 57) dX10_init_12 fX10_12 ftX10 (fpFR rfl rfl (tyX10_ok 0 (by decide)) rfl rfl) rfl (ownX rfl) (by decide) hf hb ?_
  refine V_aload_n (pc := 15) (i := 0) dX10_init_15 rfl rfl ?_
  refine V_bipush (pc := 16) (v := 8) dX10_init_16 (by decide) ?_
  refine P_newI (pc := 18) (N := 8) dX10_init_18 (by rfl) (by decide) ?_
  refine P_putF (pc := 20) (k := 57) dX10_init_20 fX10_18 ftX10 (fpFR rfl rfl (tyX10_ok 1 (by decide)) rfl rfl) rfl (ownX rfl) (by decide) (by rfl) hb ?_
  refine V_aload_n (pc := 23) (i := 0) dX10_init_23 rfl rfl ?_
  refine V_bipush (pc := 24) (v := 8) dX10_init_24 (by decide) ?_
  refine P_newI (pc := 26) (N := 8) dX10_init_26 (by rfl) (by decide) ?_
  refine P_putF (pc := 28) (k := 57) dX10_init_28 fX10_22 ftX10 (fpFR rfl rfl (tyX10_ok 2 (by decide)) rfl rfl) rfl (ownX rfl) (by decide) (by rfl) hb ?_
  refine V_aload_n (pc := 31) (i := 0) dX10_init_31 rfl rfl ?_
  refine V_bipush (pc := 32) (v := 8) dX10_init_32 (by decide) ?_
  refine P_newI (pc := 34) (N := 8) dX10_init_34 (by rfl) (by decide) ?_
  refine P_putF (pc := 36) (k := 57) dX10_init_36 fX10_25 ftX10 (fpFR rfl rfl (tyX10_ok 3 (by decide)) rfl rfl) rfl (ownX rfl) (by decide) (by rfl) hb ?_
  refine V_aload_n (pc := 39) (i := 0) dX10_init_39 rfl rfl ?_
  refine V_bipush (pc := 40) (v := 8) dX10_init_40 (by decide) ?_
  refine P_newI (pc := 42) (N := 8) dX10_init_42 (by rfl) (by decide) ?_
  refine P_putF (pc := 44) (k := 57) dX10_init_44 fX10_28 ftX10 (fpFR rfl rfl (tyX10_ok 4 (by decide)) rfl rfl) rfl (ownX rfl) (by decide) (by rfl) hb ?_
  refine V_aload_n (pc := 47) (i := 0) dX10_init_47 rfl rfl ?_
  refine V_bipush (pc := 48) (v := 7) dX10_init_48 (by decide) ?_
  refine P_newI (pc := 50) (N := 7) dX10_init_50 (by rfl) (by decide) ?_
  refine P_putF (pc := 52) (k := 57) dX10_init_52 fX10_33 ftX10 (fpFR rfl rfl (tyX10_ok 5 (by decide)) rfl rfl) rfl (ownX rfl) (by decide) (by rfl) hb ?_
  refine V_aload_n (pc := 55) (i := 0) dX10_init_55 rfl rfl ?_
  refine V_iconst (pc := 56) (v := 0) dX10_init_56 (by decide) ?_
  refine P_put (pc := 57) (k := 57) dX10_init_57 fX10_36 ftX10 (fpI rfl rfl (tyX10_ok 7 (by decide))) (by decide) (by rfl) hb ?_
  refine V_aload_n (pc := 60) (i := 0) dX10_init_60 rfl rfl ?_
  refine V_aload_n (pc := 61) (i := 1) dX10_init_61 rfl rfl ?_
  refine P_put (pc := 62) (k := 57) dX10_init_62 fX10_40 ftX10 (fpR rfl rfl (tyX10_ok 6 (by decide))) (by decide) (by rfl) hb ?_
  exact P_ret (pc := 65) dX10_init_65 rfl (by decide) (fun j hj => by simp only [uC, if_neg hj]) (by rfl) (by rfl) (by exact fl (fl (fl (fl (fl (fl (fl (fl fl0 rfl) rfl) rfl) rfl) rfl) rfl) rfl) rfl)
theorem X11_init_0 {f : Nat → Option xC} (hf : f 0 = some (.inr (11, fun k => defaultValue (tyX11 k)))) (hb : gB G ≤ b) (hd : 4 ≤ d) : VM G mX11_init d 67 7597 [.ref (b + 0)] (xE none (pN b 68 (uC (uC (uC (uC (uC (uC (uC (uC (uC (uC (uC (uC (uC (uC (uC (uC (uC (uC (uC (uC (uC (uC (uC (uC (uC (uC (uC (uC (uC (uC (uC (uC (uC (uC (uC (uC (uC (uC (uC (uC (uC (uC (uC (uC (uC (uC (uC (uC (uC (uC (uC (uC (uC (uC (uC (uC (uC (uC (uC (uC (uC (uC (uC (uC (uC (uC (uC (uC (uC (uC (uC (uC (uC (uC (uC (uC (uC (uC (uC (uC (uC (uC (uC (uC (uC (uC f 1 (.inr (3, fun k => defaultValue (tyX3 k)))) 2 (.inr (9, fun k => defaultValue (tyX9 k)))) 3 (aC 1 700)) 2 (.inr (9, objF b [5, 0, 0, 0, 0, 0, 0] (rw1 3 (-1))))) 4 (.inr (7, fun k => defaultValue (tyX7 k)))) 5 (aC 0 10)) 6 (.inr (1, fun k => defaultValue (tyX1 k)))) 7 (aC 0 12)) 8 (aC 0 12)) 9 (aC 0 12)) 6 (.inr (1, objF b [9, 10, 11, 0, 0] (z0)))) 10 (.inr (4, fun k => defaultValue (tyX4 k)))) 11 (aC 0 700)) 12 (aC 0 64)) 10 (.inr (4, objF b [13, 14, 0] (z0)))) 13 (aC 0 8)) 14 (aC 0 8)) 15 (aC 0 8)) 16 (aC 0 8)) 4 (.inr (7, objF b [7, 8, 12, 15, 16, 17, 18, 0, 0, 0, 0] (rw1 9 4)))) 1 (.inr (3, objF b [4, 1, 0, 0] (rw2 1 1 3 (-1))))) 17 (.inr (8, fun k => defaultValue (tyX8 k)))) 18 (aC 0 8)) 19 (aC 0 8)) 20 (aC 0 8)) 21 (aC 0 8)) 17 (.inr (8, objF b [20, 21, 22, 23, 0, 0, 0, 0] (rw1 5 4)))) 22 (.inr (0, fun k => defaultValue (tyX0 k)))) 23 (aC 0 1440)) 22 (.inr (0, objF b [25, 0, 0] (z0)))) 24 (.inr (5, fun k => defaultValue (tyX5 k)))) 25 (aC 0 8)) 26 (aC 0 8)) 24 (.inr (5, objF b [27, 28, 0, 0] (z0)))) 27 (aC 0 3)) 28 (.inr (2, fun k => defaultValue (tyX2 k)))) 29 (.inr (8, fun k => defaultValue (tyX8 k)))) 30 (aC 0 8)) 31 (aC 0 8)) 32 (aC 0 8)) 33 (aC 0 8)) 29 (.inr (8, objF b [32, 33, 34, 35, 0, 0, 0, 0] (rw1 5 4)))) 34 (.inr (0, fun k => defaultValue (tyX0 k)))) 35 (aC 0 1440)) 34 (.inr (0, objF b [37, 0, 0] (z0)))) 36 (.inr (5, fun k => defaultValue (tyX5 k)))) 37 (aC 0 8)) 38 (aC 0 8)) 36 (.inr (5, objF b [39, 40, 0, 0] (z0)))) 39 (aC 0 3)) 28 (.inr (2, objF b [31, 36, 38, 41, 0] (z0)))) 40 (.inr (6, fun k => defaultValue (tyX6 k)))) 41 (aC 0 1024)) 42 (aC 0 1024)) 40 (.inr (6, objF b [43, 44] (z0)))) 43 (aC 0 10)) 44 (.inr (7, fun k => defaultValue (tyX7 k)))) 45 (aC 0 10)) 46 (.inr (1, fun k => defaultValue (tyX1 k)))) 47 (aC 0 12)) 48 (aC 0 12)) 49 (aC 0 12)) 46 (.inr (1, objF b [49, 50, 51, 0, 0] (z0)))) 50 (.inr (4, fun k => defaultValue (tyX4 k)))) 51 (aC 0 700)) 52 (aC 0 64)) 50 (.inr (4, objF b [53, 54, 0] (z0)))) 53 (aC 0 8)) 54 (aC 0 8)) 55 (aC 0 8)) 56 (aC 0 8)) 44 (.inr (7, objF b [47, 48, 52, 55, 56, 57, 58, 0, 0, 0, 0] (rw1 9 4)))) 57 (.inr (10, fun k => defaultValue (tyX10 k)))) 58 (.inr (8, fun k => defaultValue (tyX8 k)))) 59 (aC 0 8)) 60 (aC 0 8)) 61 (aC 0 8)) 62 (aC 0 8)) 58 (.inr (8, objF b [61, 62, 63, 64, 0, 0, 0, 0] (rw1 5 4)))) 63 (aC 0 8)) 64 (aC 0 8)) 65 (aC 0 8)) 66 (aC 0 8)) 67 (aC 0 7)) 57 (.inr (10, objF b [60, 65, 66, 67, 68, 69, 1, 0] (z0)))) 0 (.inr (11, objF b [3, 19, 24, 26, 29, 30, 42, 45, 59, 1, 0, 0] (rw1 10 (-1))))) h0)) (pN b 1 f h0) := by
  refine VM_start (ls := [some (.ref (b + 0)), none]) rfl ?_
  refine V_aload_n (pc := 0) (i := 0) dX11_init_0 rfl rfl ?_
  refine V_obj (pc := 1) dX11_init_1 cX11_1 w_objI w_objC (by omega) (Nat.le_of_ble_eq_true rfl) ?_
  refine V_aload_n (pc := 4) (i := 0) dX11_init_4 rfl rfl ?_
  refine P_new (pc := 5) (N := 4) dX11_init_5 nX11_7 ?_
  refine V_dup (pc := 8) dX11_init_8 rfl ?_
  refine P_cIN (pc := 9) (mc := 15) (ms := 1568) dX11_init_9 cX11_9 (X3_init_1 (d := 3) (by rfl) hb (by omega)) (Nat.le_of_ble_eq_true rfl) (by omega) (Nat.le_of_ble_eq_true rfl) ?_
  refine P_putF (pc := 12) (k := 0) dX11_init_12 fX11_10 ftX11 (fpFR rfl rfl (tyX11_ok 0 (by decide)) rfl rfl) rfl (ownX rfl) (by decide) hf hb ?_
  refine V_aload_n (pc := 15) (i := 0) dX11_init_15 rfl rfl ?_
  refine P_new (pc := 16) (N := 8) dX11_init_16 nX11_16 ?_
  refine V_dup (pc := 19) dX11_init_19 rfl ?_
  refine P_cIN (pc := 20) (mc := 4) (ms := 32) dX11_init_20 cX11_18 (X8_init_17 (d := 1) (by rfl) hb (by omega)) (Nat.le_of_ble_eq_true rfl) (by omega) (Nat.le_of_ble_eq_true rfl) ?_
  refine P_putF (pc := 23) (k := 0) dX11_init_23 fX11_19 ftX11 (fpFR rfl rfl (tyX11_ok 1 (by decide)) rfl rfl) rfl (ownX rfl) (by decide) (by rfl) hb ?_
  refine V_aload_n (pc := 26) (i := 0) dX11_init_26 rfl rfl ?_
  refine P_new (pc := 27) (N := 3) dX11_init_27 nX11_23 ?_
  refine V_dup (pc := 30) dX11_init_30 rfl ?_
  refine P_cIN (pc := 31) (mc := 1) (ms := 1440) dX11_init_31 cX11_25 (X0_init_22 (d := 1) (by rfl) hb (by omega)) (Nat.le_of_ble_eq_true rfl) (by omega) (Nat.le_of_ble_eq_true rfl) ?_
  refine P_putF (pc := 34) (k := 0) dX11_init_34 fX11_26 ftX11 (fpFR rfl rfl (tyX11_ok 2 (by decide)) rfl rfl) rfl (ownX rfl) (by decide) (by rfl) hb ?_
  refine V_aload_n (pc := 37) (i := 0) dX11_init_37 rfl rfl ?_
  refine P_new (pc := 38) (N := 4) dX11_init_38 nX11_30 ?_
  refine V_dup (pc := 41) dX11_init_41 rfl ?_
  refine P_cIN (pc := 42) (mc := 2) (ms := 16) dX11_init_42 cX11_32 (X5_init_24 (d := 1) (by rfl) hb (by omega)) (Nat.le_of_ble_eq_true rfl) (by omega) (Nat.le_of_ble_eq_true rfl) ?_
  refine P_putF (pc := 45) (k := 0) dX11_init_45 fX11_33 ftX11 (fpFR rfl rfl (tyX11_ok 3 (by decide)) rfl rfl) rfl (ownX rfl) (by decide) (by rfl) hb ?_
  refine V_aload_n (pc := 48) (i := 0) dX11_init_48 rfl rfl ?_
  refine V_iconst (pc := 49) (v := 3) dX11_init_49 (by decide) ?_
  refine P_newI (pc := 50) (N := 3) dX11_init_50 (by rfl) (by decide) ?_
  refine P_putF (pc := 52) (k := 0) dX11_init_52 fX11_37 ftX11 (fpFR rfl rfl (tyX11_ok 4 (by decide)) rfl rfl) rfl (ownX rfl) (by decide) (by rfl) hb ?_
  refine V_aload_n (pc := 55) (i := 0) dX11_init_55 rfl rfl ?_
  refine P_new (pc := 56) (N := 5) dX11_init_56 nX11_41 ?_
  refine V_dup (pc := 59) dX11_init_59 rfl ?_
  refine P_cIN (pc := 60) (mc := 11) (ms := 1506) dX11_init_60 cX11_43 (X2_init_28 (d := 2) (by rfl) hb (by omega)) (Nat.le_of_ble_eq_true rfl) (by omega) (Nat.le_of_ble_eq_true rfl) ?_
  refine P_putF (pc := 63) (k := 0) dX11_init_63 fX11_44 ftX11 (fpFR rfl rfl (tyX11_ok 5 (by decide)) rfl rfl) rfl (ownX rfl) (by decide) (by rfl) hb ?_
  refine V_aload_n (pc := 66) (i := 0) dX11_init_66 rfl rfl ?_
  refine P_new (pc := 67) (N := 2) dX11_init_67 nX11_48 ?_
  refine V_dup (pc := 70) dX11_init_70 rfl ?_
  refine P_cIN (pc := 71) (mc := 2) (ms := 2048) dX11_init_71 cX11_50 (X6_init_40 (d := 1) (by rfl) hb (by omega)) (Nat.le_of_ble_eq_true rfl) (by omega) (Nat.le_of_ble_eq_true rfl) ?_
  refine P_putF (pc := 74) (k := 0) dX11_init_74 fX11_51 ftX11 (fpFR rfl rfl (tyX11_ok 6 (by decide)) rfl rfl) rfl (ownX rfl) (by decide) (by rfl) hb ?_
  refine V_aload_n (pc := 77) (i := 0) dX11_init_77 rfl rfl ?_
  refine V_bipush (pc := 78) (v := 10) dX11_init_78 (by decide) ?_
  refine P_newI (pc := 80) (N := 10) dX11_init_80 (by rfl) (by decide) ?_
  refine P_putF (pc := 82) (k := 0) dX11_init_82 fX11_55 ftX11 (fpFR rfl rfl (tyX11_ok 7 (by decide)) rfl rfl) rfl (ownX rfl) (by decide) (by rfl) hb ?_
  refine V_aload_n (pc := 85) (i := 0) dX11_init_85 rfl rfl ?_
  refine V_iconst (pc := 86) (v := -1) dX11_init_86 (by decide) ?_
  refine P_put (pc := 87) (k := 0) dX11_init_87 fX11_58 ftX11 (fpI rfl rfl (tyX11_ok 10 (by decide))) (by decide) (by rfl) hb ?_
  refine V_aload_n (pc := 90) (i := 0) dX11_init_90 rfl rfl ?_
  refine V_iconst (pc := 91) (v := 0) dX11_init_91 (by decide) ?_
  refine P_put (pc := 92) (k := 0) dX11_init_92 fX11_62 ftX11 (fpI rfl rfl (tyX11_ok 11 (by decide))) (by decide) (by rfl) hb ?_
  refine P_new (pc := 95) (N := 11) dX11_init_95 nX11_65 ?_
  refine V_dup (pc := 98) dX11_init_98 rfl ?_
  refine P_cIN (pc := 99) (mc := 12) (ms := 850) dX11_init_99 cX11_67 (X7_init_44 (d := 2) (by rfl) hb (by omega)) (Nat.le_of_ble_eq_true rfl) (by omega) (Nat.le_of_ble_eq_true rfl) ?_
  refine V_astore_n (pc := 102) (i := 1) dX11_init_102 rfl (by decide) rfl ?_
  refine V_aload_n (pc := 103) (i := 0) dX11_init_103 rfl rfl ?_
  refine V_aload_n (pc := 104) (i := 1) dX11_init_104 rfl rfl ?_
  refine P_put (pc := 105) (k := 0) dX11_init_105 fX11_68 ftX11 (fpR rfl rfl (tyX11_ok 9 (by decide))) (by decide) (by rfl) hb ?_
  refine V_aload_n (pc := 108) (i := 0) dX11_init_108 rfl rfl ?_
  refine P_new (pc := 109) (N := 8) dX11_init_109 nX11_72 ?_
  refine V_dup (pc := 112) dX11_init_112 rfl ?_
  refine V_aload_n (pc := 113) (i := 1) dX11_init_113 rfl rfl ?_
  refine P_cI1 (pc := 114) (mc := 10) (ms := 79) dX11_init_114 cX11_74 (X10_init_57 (d := 2) (by rfl) hb (by omega)) (Nat.le_of_ble_eq_true rfl) (by omega) (Nat.le_of_ble_eq_true rfl) ?_
  refine P_putF (pc := 117) (k := 0) dX11_init_117 fX11_77 ftX11 (fpFR rfl rfl (tyX11_ok 8 (by decide)) rfl rfl) rfl (ownX rfl) (by decide) (by rfl) hb ?_
  exact P_ret (pc := 120) dX11_init_120 rfl (by decide) (fun j hj => by simp only [uC, if_neg hj]) (by rfl) (by rfl) (by exact fl (fl (fl (fl (fl (fl (fl (fl (fl (fl (fl (fl fl0 rfl) rfl) rfl) rfl) rfl) rfl) rfl) rfl) rfl) rfl) rfl) rfl)
end C1
