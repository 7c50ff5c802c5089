/-! ===== the wrappers of the law ===== -/
section J1
variable {G : xG} {d : Nat} {b : Nat} {S S' T : Nat → Nat → Int32} {fo : Nat → Int64} {hS : Nat → Option xC} {y : Option Nat}
theorem w_lN : Cond.classLink RL 18 "java/util/NoSuchElementException" ∈ lw_good := lw_t (i := 937) (by decide +kernel) (by decide +kernel)
theorem w_lI : Cond.classLink RL 13 "java/lang/IllegalArgumentException" ∈ lw_good := lw_t (i := 582) (by decide +kernel) (by decide +kernel)
theorem L_shore_ok {x1 : Int32} {v : Int32} (kC : ∀ h0 : xH, VM G mX11_shore 80 0 0 (.ref (b + 0) :: [.int x1]) (xE (some (.int v)) (wH G b tbC S' h0)) (wH G b tbC S h0)) (hb : gB G ≤ b) (hd : 81 ≤ d) : VM G mL_shore d 0 0 [.ref (b + 0), .int x1, .ref (b + 68 + 35)] (xE (some (.int 0)) (jH G b S' T (vp_updL fo 0 v.toInt64) hS y)) (jH G b S T fo hS y) := by
  refine VM_start (ls := [some (.ref (b + 0)), some (.int x1), some (.ref (b + 68 + 35)), none]) rfl ?_
  refine V_aload_n (pc := 0) (i := 2) dL_shore_0 rfl rfl ?_
  refine V_iconst (pc := 1) (v := 0) dL_shore_1 (by decide) ?_
  refine V_aload_n (pc := 2) (i := 0) dL_shore_2 rfl rfl ?_
  refine V_iload_n (pc := 3) (i := 1) dL_shore_3 rfl rfl ?_
  refine J_C (pc := 4) dL_shore_4 cL_7 kC rfl (Nat.le_of_ble_eq_true rfl) rfl hd (Nat.le_of_ble_eq_true rfl) ?_
  refine V_i2l (pc := 7) dL_shore_7 rfl ?_
  refine J_last (pc := 8) dL_shore_8 hb ?_
  refine V_goto (pc := 9) 15 dL_shore_9 rfl ?_
  refine V_iconst (pc := 15) (v := 0) dL_shore_15 (by decide) ?_
  exact VE_iret (pc := 16) dL_shore_16 rfl rfl rfl
theorem L_shore_IAE {x1 : Int32} (kC : ∀ h0 : xH, VM G mX11_shore 80 1 6 (.ref (b + 0) :: [.int x1]) (xT IAE (wH G b tbC S h0)) (wH G b tbC S h0)) (hb : gB G ≤ b) (hd : 81 ≤ d) : VM G mL_shore d 1 6 [.ref (b + 0), .int x1, .ref (b + 68 + 35)] (xF (some (.int 1)) (jH G b S T fo hS y)) (jH G b S T fo hS y) := by
  refine VM_start (ls := [some (.ref (b + 0)), some (.int x1), some (.ref (b + 68 + 35)), none]) rfl ?_
  refine V_aload_n (pc := 0) (i := 2) dL_shore_0 rfl rfl ?_
  refine V_iconst (pc := 1) (v := 0) dL_shore_1 (by decide) ?_
  refine V_aload_n (pc := 2) (i := 0) dL_shore_2 rfl rfl ?_
  refine V_iload_n (pc := 3) (i := 1) dL_shore_3 rfl rfl ?_
  refine J_Cth (pc := 4) (bc := 0) (bs := 0) dL_shore_4 cL_7 kC rfl (Nat.le_of_ble_eq_true rfl) rfl hd (Nat.le_of_ble_eq_true rfl) (fun y' => ?_)
  refine VX_catch [] ⟨0, 9, 12, 13⟩ [] rfl (fun z hz => by cases hz) (by decide) (by decide) w_lI (by decide +kernel) (fun q => ?_)
  refine V_astore_n (pc := 12) (i := 3) dL_shore_12 rfl (by decide) rfl ?_
  refine V_iconst (pc := 13) (v := 1) dL_shore_13 (by decide) ?_
  exact VF_iret (pc := 14) dL_shore_14 rfl rfl rfl
theorem L_count_ok {x1 : Int32} {v : Int32} (kC : ∀ h0 : xH, VM G mX11_count 80 0 0 (.ref (b + 0) :: [.int x1]) (xE (some (.int v)) (wH G b tbC S' h0)) (wH G b tbC S h0)) (hb : gB G ≤ b) (hd : 81 ≤ d) : VM G mL_count d 0 0 [.ref (b + 0), .int x1, .ref (b + 68 + 35)] (xE (some (.int 0)) (jH G b S' T (vp_updL fo 0 v.toInt64) hS y)) (jH G b S T fo hS y) := by
  refine VM_start (ls := [some (.ref (b + 0)), some (.int x1), some (.ref (b + 68 + 35)), none]) rfl ?_
  refine V_aload_n (pc := 0) (i := 2) dL_count_0 rfl rfl ?_
  refine V_iconst (pc := 1) (v := 0) dL_count_1 (by decide) ?_
  refine V_aload_n (pc := 2) (i := 0) dL_count_2 rfl rfl ?_
  refine V_iload_n (pc := 3) (i := 1) dL_count_3 rfl rfl ?_
  refine J_C (pc := 4) dL_count_4 cL_15 kC rfl (Nat.le_of_ble_eq_true rfl) rfl hd (Nat.le_of_ble_eq_true rfl) ?_
  refine V_i2l (pc := 7) dL_count_7 rfl ?_
  refine J_last (pc := 8) dL_count_8 hb ?_
  refine V_goto (pc := 9) 15 dL_count_9 rfl ?_
  refine V_iconst (pc := 15) (v := 0) dL_count_15 (by decide) ?_
  exact VE_iret (pc := 16) dL_count_16 rfl rfl rfl
theorem L_count_NSE {x1 : Int32} (kC : ∀ h0 : xH, VM G mX11_count 80 1 6 (.ref (b + 0) :: [.int x1]) (xT NSE (wH G b tbC S h0)) (wH G b tbC S h0)) (hb : gB G ≤ b) (hd : 81 ≤ d) : VM G mL_count d 1 6 [.ref (b + 0), .int x1, .ref (b + 68 + 35)] (xF (some (.int 1)) (jH G b S T fo hS y)) (jH G b S T fo hS y) := by
  refine VM_start (ls := [some (.ref (b + 0)), some (.int x1), some (.ref (b + 68 + 35)), none]) rfl ?_
  refine V_aload_n (pc := 0) (i := 2) dL_count_0 rfl rfl ?_
  refine V_iconst (pc := 1) (v := 0) dL_count_1 (by decide) ?_
  refine V_aload_n (pc := 2) (i := 0) dL_count_2 rfl rfl ?_
  refine V_iload_n (pc := 3) (i := 1) dL_count_3 rfl rfl ?_
  refine J_Cth (pc := 4) (bc := 0) (bs := 0) dL_count_4 cL_15 kC rfl (Nat.le_of_ble_eq_true rfl) rfl hd (Nat.le_of_ble_eq_true rfl) (fun y' => ?_)
  refine VX_catch [] ⟨0, 9, 12, 18⟩ [] rfl (fun z hz => by cases hz) (by decide) (by decide) w_lN (by decide +kernel) (fun q => ?_)
  refine V_astore_n (pc := 12) (i := 3) dL_count_12 rfl (by decide) rfl ?_
  refine V_iconst (pc := 13) (v := 1) dL_count_13 (by decide) ?_
  exact VF_iret (pc := 14) dL_count_14 rfl rfl rfl
theorem L_worth_ok {x1 : Int32} {v : Int32} (kC : ∀ h0 : xH, VM G mX11_worth 80 0 0 (.ref (b + 0) :: [.int x1]) (xE (some (.int v)) (wH G b tbC S' h0)) (wH G b tbC S h0)) (hb : gB G ≤ b) (hd : 81 ≤ d) : VM G mL_worth d 0 0 [.ref (b + 0), .int x1, .ref (b + 68 + 35)] (xE (some (.int 0)) (jH G b S' T (vp_updL fo 0 v.toInt64) hS y)) (jH G b S T fo hS y) := by
  refine VM_start (ls := [some (.ref (b + 0)), some (.int x1), some (.ref (b + 68 + 35)), none]) rfl ?_
  refine V_aload_n (pc := 0) (i := 2) dL_worth_0 rfl rfl ?_
  refine V_iconst (pc := 1) (v := 0) dL_worth_1 (by decide) ?_
  refine V_aload_n (pc := 2) (i := 0) dL_worth_2 rfl rfl ?_
  refine V_iload_n (pc := 3) (i := 1) dL_worth_3 rfl rfl ?_
  refine J_C (pc := 4) dL_worth_4 cL_20 kC rfl (Nat.le_of_ble_eq_true rfl) rfl hd (Nat.le_of_ble_eq_true rfl) ?_
  refine V_i2l (pc := 7) dL_worth_7 rfl ?_
  refine J_last (pc := 8) dL_worth_8 hb ?_
  refine V_goto (pc := 9) 15 dL_worth_9 rfl ?_
  refine V_iconst (pc := 15) (v := 0) dL_worth_15 (by decide) ?_
  exact VE_iret (pc := 16) dL_worth_16 rfl rfl rfl
theorem L_worth_NSE {x1 : Int32} (kC : ∀ h0 : xH, VM G mX11_worth 80 1 6 (.ref (b + 0) :: [.int x1]) (xT NSE (wH G b tbC S h0)) (wH G b tbC S h0)) (hb : gB G ≤ b) (hd : 81 ≤ d) : VM G mL_worth d 1 6 [.ref (b + 0), .int x1, .ref (b + 68 + 35)] (xF (some (.int 1)) (jH G b S T fo hS y)) (jH G b S T fo hS y) := by
  refine VM_start (ls := [some (.ref (b + 0)), some (.int x1), some (.ref (b + 68 + 35)), none]) rfl ?_
  refine V_aload_n (pc := 0) (i := 2) dL_worth_0 rfl rfl ?_
  refine V_iconst (pc := 1) (v := 0) dL_worth_1 (by decide) ?_
  refine V_aload_n (pc := 2) (i := 0) dL_worth_2 rfl rfl ?_
  refine V_iload_n (pc := 3) (i := 1) dL_worth_3 rfl rfl ?_
  refine J_Cth (pc := 4) (bc := 0) (bs := 0) dL_worth_4 cL_20 kC rfl (Nat.le_of_ble_eq_true rfl) rfl hd (Nat.le_of_ble_eq_true rfl) (fun y' => ?_)
  refine VX_catch [] ⟨0, 9, 12, 18⟩ [] rfl (fun z hz => by cases hz) (by decide) (by decide) w_lN (by decide +kernel) (fun q => ?_)
  refine V_astore_n (pc := 12) (i := 3) dL_worth_12 rfl (by decide) rfl ?_
  refine V_iconst (pc := 13) (v := 1) dL_worth_13 (by decide) ?_
  exact VF_iret (pc := 14) dL_worth_14 rfl rfl rfl
theorem L_conditional_ok {x1 x2 : Int32} {v : Int32} (kC : ∀ h0 : xH, VM G mX11_conditional 80 0 0 (.ref (b + 0) :: [.int x1, .int x2]) (xE (some (.int v)) (wH G b tbC S' h0)) (wH G b tbC S h0)) (hb : gB G ≤ b) (hd : 81 ≤ d) : VM G mL_conditional d 0 0 [.ref (b + 0), .int x1, .int x2, .ref (b + 68 + 35)] (xE (some (.int 0)) (jH G b S' T (vp_updL fo 0 v.toInt64) hS y)) (jH G b S T fo hS y) := by
  refine VM_start (ls := [some (.ref (b + 0)), some (.int x1), some (.int x2), some (.ref (b + 68 + 35)), none]) rfl ?_
  refine V_aload_n (pc := 0) (i := 3) dL_conditional_0 rfl rfl ?_
  refine V_iconst (pc := 1) (v := 0) dL_conditional_1 (by decide) ?_
  refine V_aload_n (pc := 2) (i := 0) dL_conditional_2 rfl rfl ?_
  refine V_iload_n (pc := 3) (i := 1) dL_conditional_3 rfl rfl ?_
  refine V_iload_n (pc := 4) (i := 2) dL_conditional_4 rfl rfl ?_
  refine J_C (pc := 5) dL_conditional_5 cL_23 kC rfl (Nat.le_of_ble_eq_true rfl) rfl hd (Nat.le_of_ble_eq_true rfl) ?_
  refine V_i2l (pc := 8) dL_conditional_8 rfl ?_
  refine J_last (pc := 9) dL_conditional_9 hb ?_
  refine V_goto (pc := 10) 17 dL_conditional_10 rfl ?_
  refine V_iconst (pc := 17) (v := 0) dL_conditional_17 (by decide) ?_
  exact VE_iret (pc := 18) dL_conditional_18 rfl rfl rfl
theorem L_conditional_NSE {x1 x2 : Int32} (kC : ∀ h0 : xH, VM G mX11_conditional 80 1 6 (.ref (b + 0) :: [.int x1, .int x2]) (xT NSE (wH G b tbC S h0)) (wH G b tbC S h0)) (hb : gB G ≤ b) (hd : 81 ≤ d) : VM G mL_conditional d 1 6 [.ref (b + 0), .int x1, .int x2, .ref (b + 68 + 35)] (xF (some (.int 1)) (jH G b S T fo hS y)) (jH G b S T fo hS y) := by
  refine VM_start (ls := [some (.ref (b + 0)), some (.int x1), some (.int x2), some (.ref (b + 68 + 35)), none]) rfl ?_
  refine V_aload_n (pc := 0) (i := 3) dL_conditional_0 rfl rfl ?_
  refine V_iconst (pc := 1) (v := 0) dL_conditional_1 (by decide) ?_
  refine V_aload_n (pc := 2) (i := 0) dL_conditional_2 rfl rfl ?_
  refine V_iload_n (pc := 3) (i := 1) dL_conditional_3 rfl rfl ?_
  refine V_iload_n (pc := 4) (i := 2) dL_conditional_4 rfl rfl ?_
  refine J_Cth (pc := 5) (bc := 0) (bs := 0) dL_conditional_5 cL_23 kC rfl (Nat.le_of_ble_eq_true rfl) rfl hd (Nat.le_of_ble_eq_true rfl) (fun y' => ?_)
  refine VX_catch [] ⟨0, 10, 13, 18⟩ [] rfl (fun z hz => by cases hz) (by decide) (by decide) w_lN (by decide +kernel) (fun q => ?_)
  refine V_astore (pc := 13) dL_conditional_13 (by decide) rfl ?_
  refine V_iconst (pc := 15) (v := 1) dL_conditional_15 (by decide) ?_
  exact VF_iret (pc := 16) dL_conditional_16 rfl rfl rfl
theorem L_person_ok {x1 x2 : Int32} {v : Int32} (kC : ∀ h0 : xH, VM G mX11_person 80 0 0 (.ref (b + 0) :: [.int x1, .int x2]) (xE (some (.int v)) (wH G b tbC S' h0)) (wH G b tbC S h0)) (hb : gB G ≤ b) (hd : 81 ≤ d) : VM G mL_person d 0 0 [.ref (b + 0), .int x1, .int x2, .ref (b + 68 + 35)] (xE (some (.int 0)) (jH G b S' T (vp_updL fo 0 v.toInt64) hS y)) (jH G b S T fo hS y) := by
  refine VM_start (ls := [some (.ref (b + 0)), some (.int x1), some (.int x2), some (.ref (b + 68 + 35)), none]) rfl ?_
  refine V_aload_n (pc := 0) (i := 3) dL_person_0 rfl rfl ?_
  refine V_iconst (pc := 1) (v := 0) dL_person_1 (by decide) ?_
  refine V_aload_n (pc := 2) (i := 0) dL_person_2 rfl rfl ?_
  refine V_iload_n (pc := 3) (i := 1) dL_person_3 rfl rfl ?_
  refine V_iload_n (pc := 4) (i := 2) dL_person_4 rfl rfl ?_
  refine J_C (pc := 5) dL_person_5 cL_27 kC rfl (Nat.le_of_ble_eq_true rfl) rfl hd (Nat.le_of_ble_eq_true rfl) ?_
  refine V_i2l (pc := 8) dL_person_8 rfl ?_
  refine J_last (pc := 9) dL_person_9 hb ?_
  refine V_goto (pc := 10) 17 dL_person_10 rfl ?_
  refine V_iconst (pc := 17) (v := 0) dL_person_17 (by decide) ?_
  exact VE_iret (pc := 18) dL_person_18 rfl rfl rfl
theorem L_person_NSE {x1 x2 : Int32} (kC : ∀ h0 : xH, VM G mX11_person 80 1 6 (.ref (b + 0) :: [.int x1, .int x2]) (xT NSE (wH G b tbC S h0)) (wH G b tbC S h0)) (hb : gB G ≤ b) (hd : 81 ≤ d) : VM G mL_person d 1 6 [.ref (b + 0), .int x1, .int x2, .ref (b + 68 + 35)] (xF (some (.int 1)) (jH G b S T fo hS y)) (jH G b S T fo hS y) := by
  refine VM_start (ls := [some (.ref (b + 0)), some (.int x1), some (.int x2), some (.ref (b + 68 + 35)), none]) rfl ?_
  refine V_aload_n (pc := 0) (i := 3) dL_person_0 rfl rfl ?_
  refine V_iconst (pc := 1) (v := 0) dL_person_1 (by decide) ?_
  refine V_aload_n (pc := 2) (i := 0) dL_person_2 rfl rfl ?_
  refine V_iload_n (pc := 3) (i := 1) dL_person_3 rfl rfl ?_
  refine V_iload_n (pc := 4) (i := 2) dL_person_4 rfl rfl ?_
  refine J_Cth (pc := 5) (bc := 0) (bs := 0) dL_person_5 cL_27 kC rfl (Nat.le_of_ble_eq_true rfl) rfl hd (Nat.le_of_ble_eq_true rfl) (fun y' => ?_)
  refine VX_catch [] ⟨0, 10, 13, 18⟩ [] rfl (fun z hz => by cases hz) (by decide) (by decide) w_lN (by decide +kernel) (fun q => ?_)
  refine V_astore (pc := 13) dL_person_13 (by decide) rfl ?_
  refine V_iconst (pc := 15) (v := 1) dL_person_15 (by decide) ?_
  exact VF_iret (pc := 16) dL_person_16 rfl rfl rfl
theorem L_has_ok {x1 x2 x3 : Int32} {v : Int32} (kC : ∀ h0 : xH, VM G mX11_has 80 0 0 (.ref (b + 0) :: [.int x1, .int x2, .int x3]) (xE (some (.int v)) (wH G b tbC S' h0)) (wH G b tbC S h0)) (hb : gB G ≤ b) (hd : 81 ≤ d) : VM G mL_has d 0 0 [.ref (b + 0), .int x1, .int x2, .int x3, .ref (b + 68 + 35)] (xE (some (.int 0)) (jH G b S' T (vp_updL fo 0 v.toInt64) hS y)) (jH G b S T fo hS y) := by
  refine VM_start (ls := [some (.ref (b + 0)), some (.int x1), some (.int x2), some (.int x3), some (.ref (b + 68 + 35)), none]) rfl ?_
  refine V_aload (pc := 0) dL_has_0 rfl ?_
  refine V_iconst (pc := 2) (v := 0) dL_has_2 (by decide) ?_
  refine V_aload_n (pc := 3) (i := 0) dL_has_3 rfl rfl ?_
  refine V_iload_n (pc := 4) (i := 1) dL_has_4 rfl rfl ?_
  refine V_iload_n (pc := 5) (i := 2) dL_has_5 rfl rfl ?_
  refine V_iload_n (pc := 6) (i := 3) dL_has_6 rfl rfl ?_
  refine J_C (pc := 7) dL_has_7 cL_30 kC rfl (Nat.le_of_ble_eq_true rfl) rfl hd (Nat.le_of_ble_eq_true rfl) ?_
  refine V_i2l (pc := 10) dL_has_10 rfl ?_
  refine J_last (pc := 11) dL_has_11 hb ?_
  refine V_goto (pc := 12) 19 dL_has_12 rfl ?_
  refine V_iconst (pc := 19) (v := 0) dL_has_19 (by decide) ?_
  exact VE_iret (pc := 20) dL_has_20 rfl rfl rfl
theorem L_has_NSE {x1 x2 x3 : Int32} (kC : ∀ h0 : xH, VM G mX11_has 80 1 6 (.ref (b + 0) :: [.int x1, .int x2, .int x3]) (xT NSE (wH G b tbC S h0)) (wH G b tbC S h0)) (hb : gB G ≤ b) (hd : 81 ≤ d) : VM G mL_has d 1 6 [.ref (b + 0), .int x1, .int x2, .int x3, .ref (b + 68 + 35)] (xF (some (.int 1)) (jH G b S T fo hS y)) (jH G b S T fo hS y) := by
  refine VM_start (ls := [some (.ref (b + 0)), some (.int x1), some (.int x2), some (.int x3), some (.ref (b + 68 + 35)), none]) rfl ?_
  refine V_aload (pc := 0) dL_has_0 rfl ?_
  refine V_iconst (pc := 2) (v := 0) dL_has_2 (by decide) ?_
  refine V_aload_n (pc := 3) (i := 0) dL_has_3 rfl rfl ?_
  refine V_iload_n (pc := 4) (i := 1) dL_has_4 rfl rfl ?_
  refine V_iload_n (pc := 5) (i := 2) dL_has_5 rfl rfl ?_
  refine V_iload_n (pc := 6) (i := 3) dL_has_6 rfl rfl ?_
  refine J_Cth (pc := 7) (bc := 0) (bs := 0) dL_has_7 cL_30 kC rfl (Nat.le_of_ble_eq_true rfl) rfl hd (Nat.le_of_ble_eq_true rfl) (fun y' => ?_)
  refine VX_catch [] ⟨0, 12, 15, 18⟩ [] rfl (fun z hz => by cases hz) (by decide) (by decide) w_lN (by decide +kernel) (fun q => ?_)
  refine V_astore (pc := 15) dL_has_15 (by decide) rfl ?_
  refine V_iconst (pc := 17) (v := 1) dL_has_17 (by decide) ?_
  exact VF_iret (pc := 18) dL_has_18 rfl rfl rfl
theorem L_miss_ok {x1 x2 : Int32} {v : Int32} (kC : ∀ h0 : xH, VM G mX11_miss 80 0 0 (.ref (b + 0) :: [.int x1, .int x2]) (xE (some (.int v)) (wH G b tbC S' h0)) (wH G b tbC S h0)) (hb : gB G ≤ b) (hd : 81 ≤ d) : VM G mL_miss d 0 0 [.ref (b + 0), .int x1, .int x2, .ref (b + 68 + 35)] (xE (some (.int 0)) (jH G b S' T (vp_updL fo 0 v.toInt64) hS y)) (jH G b S T fo hS y) := by
  refine VM_start (ls := [some (.ref (b + 0)), some (.int x1), some (.int x2), some (.ref (b + 68 + 35)), none]) rfl ?_
  refine V_aload_n (pc := 0) (i := 3) dL_miss_0 rfl rfl ?_
  refine V_iconst (pc := 1) (v := 0) dL_miss_1 (by decide) ?_
  refine V_aload_n (pc := 2) (i := 0) dL_miss_2 rfl rfl ?_
  refine V_iload_n (pc := 3) (i := 1) dL_miss_3 rfl rfl ?_
  refine V_iload_n (pc := 4) (i := 2) dL_miss_4 rfl rfl ?_
  refine J_C (pc := 5) dL_miss_5 cL_34 kC rfl (Nat.le_of_ble_eq_true rfl) rfl hd (Nat.le_of_ble_eq_true rfl) ?_
  refine V_i2l (pc := 8) dL_miss_8 rfl ?_
  refine J_last (pc := 9) dL_miss_9 hb ?_
  refine V_goto (pc := 10) 17 dL_miss_10 rfl ?_
  refine V_iconst (pc := 17) (v := 0) dL_miss_17 (by decide) ?_
  exact VE_iret (pc := 18) dL_miss_18 rfl rfl rfl
theorem L_miss_NSE {x1 x2 : Int32} (kC : ∀ h0 : xH, VM G mX11_miss 80 1 6 (.ref (b + 0) :: [.int x1, .int x2]) (xT NSE (wH G b tbC S h0)) (wH G b tbC S h0)) (hb : gB G ≤ b) (hd : 81 ≤ d) : VM G mL_miss d 1 6 [.ref (b + 0), .int x1, .int x2, .ref (b + 68 + 35)] (xF (some (.int 1)) (jH G b S T fo hS y)) (jH G b S T fo hS y) := by
  refine VM_start (ls := [some (.ref (b + 0)), some (.int x1), some (.int x2), some (.ref (b + 68 + 35)), none]) rfl ?_
  refine V_aload_n (pc := 0) (i := 3) dL_miss_0 rfl rfl ?_
  refine V_iconst (pc := 1) (v := 0) dL_miss_1 (by decide) ?_
  refine V_aload_n (pc := 2) (i := 0) dL_miss_2 rfl rfl ?_
  refine V_iload_n (pc := 3) (i := 1) dL_miss_3 rfl rfl ?_
  refine V_iload_n (pc := 4) (i := 2) dL_miss_4 rfl rfl ?_
  refine J_Cth (pc := 5) (bc := 0) (bs := 0) dL_miss_5 cL_34 kC rfl (Nat.le_of_ble_eq_true rfl) rfl hd (Nat.le_of_ble_eq_true rfl) (fun y' => ?_)
  refine VX_catch [] ⟨0, 10, 13, 18⟩ [] rfl (fun z hz => by cases hz) (by decide) (by decide) w_lN (by decide +kernel) (fun q => ?_)
  refine V_astore (pc := 13) dL_miss_13 (by decide) rfl ?_
  refine V_iconst (pc := 15) (v := 1) dL_miss_15 (by decide) ?_
  exact VF_iret (pc := 16) dL_miss_16 rfl rfl rfl
theorem L_deny_ok {x1 x2 : Int32} {v : Int32} (kC : ∀ h0 : xH, VM G mX11_deny 80 0 0 (.ref (b + 0) :: [.int x1, .int x2]) (xE (some (.int v)) (wH G b tbC S' h0)) (wH G b tbC S h0)) (hb : gB G ≤ b) (hd : 81 ≤ d) : VM G mL_deny d 0 0 [.ref (b + 0), .int x1, .int x2, .ref (b + 68 + 35)] (xE (some (.int 0)) (jH G b S' T (vp_updL fo 0 (if v = 0 then (0 : Int64) else 1)) hS y)) (jH G b S T fo hS y) := by
  refine VM_start (ls := [some (.ref (b + 0)), some (.int x1), some (.int x2), some (.ref (b + 68 + 35)), none]) rfl ?_
  refine V_aload_n (pc := 0) (i := 3) dL_deny_0 rfl rfl ?_
  refine V_iconst (pc := 1) (v := 0) dL_deny_1 (by decide) ?_
  refine V_aload_n (pc := 2) (i := 0) dL_deny_2 rfl rfl ?_
  refine V_iload_n (pc := 3) (i := 1) dL_deny_3 rfl rfl ?_
  refine V_iload_n (pc := 4) (i := 2) dL_deny_4 rfl rfl ?_
  refine J_C (pc := 5) dL_deny_5 cL_37 kC rfl (Nat.le_of_ble_eq_true rfl) rfl hd (Nat.le_of_ble_eq_true rfl) ?_
  refine V_if_eq (pc := 8) 15 dL_deny_8 rfl (fun c => ?_) (fun c => ?_)
  · rw [if_pos c]
    refine V_lconst (pc := 15) (v := 0) dL_deny_15 (by decide) ?_
    refine J_last (pc := 16) dL_deny_16 hb ?_
    refine V_goto (pc := 17) 24 dL_deny_17 rfl ?_
    refine V_iconst (pc := 24) (v := 0) dL_deny_24 (by decide) ?_
    exact VE_iret (pc := 25) dL_deny_25 rfl rfl rfl
  · rw [if_neg c]
    refine V_lconst (pc := 11) (v := 1) dL_deny_11 (by decide) ?_
    refine V_goto (pc := 12) 16 dL_deny_12 rfl ?_
    refine J_last (pc := 16) dL_deny_16 hb ?_
    refine V_goto (pc := 17) 24 dL_deny_17 rfl ?_
    refine V_iconst (pc := 24) (v := 0) dL_deny_24 (by decide) ?_
    exact VE_iret (pc := 25) dL_deny_25 rfl rfl rfl
theorem L_deny_NSE {x1 x2 : Int32} (kC : ∀ h0 : xH, VM G mX11_deny 80 1 6 (.ref (b + 0) :: [.int x1, .int x2]) (xT NSE (wH G b tbC S h0)) (wH G b tbC S h0)) (hb : gB G ≤ b) (hd : 81 ≤ d) : VM G mL_deny d 1 6 [.ref (b + 0), .int x1, .int x2, .ref (b + 68 + 35)] (xF (some (.int 1)) (jH G b S T fo hS y)) (jH G b S T fo hS y) := by
  refine VM_start (ls := [some (.ref (b + 0)), some (.int x1), some (.int x2), some (.ref (b + 68 + 35)), none]) rfl ?_
  refine V_aload_n (pc := 0) (i := 3) dL_deny_0 rfl rfl ?_
  refine V_iconst (pc := 1) (v := 0) dL_deny_1 (by decide) ?_
  refine V_aload_n (pc := 2) (i := 0) dL_deny_2 rfl rfl ?_
  refine V_iload_n (pc := 3) (i := 1) dL_deny_3 rfl rfl ?_
  refine V_iload_n (pc := 4) (i := 2) dL_deny_4 rfl rfl ?_
  refine J_Cth (pc := 5) (bc := 0) (bs := 0) dL_deny_5 cL_37 kC rfl (Nat.le_of_ble_eq_true rfl) rfl hd (Nat.le_of_ble_eq_true rfl) (fun y' => ?_)
  refine VX_catch [] ⟨0, 17, 20, 18⟩ [] rfl (fun z hz => by cases hz) (by decide) (by decide) w_lN (by decide +kernel) (fun q => ?_)
  refine V_astore (pc := 20) dL_deny_20 (by decide) rfl ?_
  refine V_iconst (pc := 22) (v := 1) dL_deny_22 (by decide) ?_
  exact VF_iret (pc := 23) dL_deny_23 rfl rfl rfl
theorem L_crossing_ok {x1 : Int32} {v : Int32} (kC : ∀ h0 : xH, VM G mX11_crossing 80 0 0 (.ref (b + 0) :: [.int x1]) (xE (some (.int v)) (wH G b tbC S' h0)) (wH G b tbC S h0)) (hb : gB G ≤ b) (hd : 81 ≤ d) : VM G mL_crossing d 0 0 [.ref (b + 0), .int x1, .ref (b + 68 + 35)] (xE (some (.int 0)) (jH G b S' T (vp_updL fo 0 v.toInt64) hS y)) (jH G b S T fo hS y) := by
  refine VM_start (ls := [some (.ref (b + 0)), some (.int x1), some (.ref (b + 68 + 35)), none]) rfl ?_
  refine V_aload_n (pc := 0) (i := 2) dL_crossing_0 rfl rfl ?_
  refine V_iconst (pc := 1) (v := 0) dL_crossing_1 (by decide) ?_
  refine V_aload_n (pc := 2) (i := 0) dL_crossing_2 rfl rfl ?_
  refine V_iload_n (pc := 3) (i := 1) dL_crossing_3 rfl rfl ?_
  refine J_C (pc := 4) dL_crossing_4 cL_41 kC rfl (Nat.le_of_ble_eq_true rfl) rfl hd (Nat.le_of_ble_eq_true rfl) ?_
  refine V_i2l (pc := 7) dL_crossing_7 rfl ?_
  refine J_last (pc := 8) dL_crossing_8 hb ?_
  refine V_goto (pc := 9) 15 dL_crossing_9 rfl ?_
  refine V_iconst (pc := 15) (v := 0) dL_crossing_15 (by decide) ?_
  exact VE_iret (pc := 16) dL_crossing_16 rfl rfl rfl
theorem L_crossing_IAE {x1 : Int32} (kC : ∀ h0 : xH, VM G mX11_crossing 80 1 6 (.ref (b + 0) :: [.int x1]) (xT IAE (wH G b tbC S h0)) (wH G b tbC S h0)) (hb : gB G ≤ b) (hd : 81 ≤ d) : VM G mL_crossing d 1 6 [.ref (b + 0), .int x1, .ref (b + 68 + 35)] (xF (some (.int 1)) (jH G b S T fo hS y)) (jH G b S T fo hS y) := by
  refine VM_start (ls := [some (.ref (b + 0)), some (.int x1), some (.ref (b + 68 + 35)), none]) rfl ?_
  refine V_aload_n (pc := 0) (i := 2) dL_crossing_0 rfl rfl ?_
  refine V_iconst (pc := 1) (v := 0) dL_crossing_1 (by decide) ?_
  refine V_aload_n (pc := 2) (i := 0) dL_crossing_2 rfl rfl ?_
  refine V_iload_n (pc := 3) (i := 1) dL_crossing_3 rfl rfl ?_
  refine J_Cth (pc := 4) (bc := 0) (bs := 0) dL_crossing_4 cL_41 kC rfl (Nat.le_of_ble_eq_true rfl) rfl hd (Nat.le_of_ble_eq_true rfl) (fun y' => ?_)
  refine VX_catch [] ⟨0, 9, 12, 13⟩ [] rfl (fun z hz => by cases hz) (by decide) (by decide) w_lI (by decide +kernel) (fun q => ?_)
  refine V_astore_n (pc := 12) (i := 3) dL_crossing_12 rfl (by decide) rfl ?_
  refine V_iconst (pc := 13) (v := 1) dL_crossing_13 (by decide) ?_
  exact VF_iret (pc := 14) dL_crossing_14 rfl rfl rfl
theorem L_then_ok {x1 x2 x3 : Int32} {v : Int32} (kC : ∀ h0 : xH, VM G mX11_then 80 0 0 (.ref (b + 0) :: [.int x1, .int x2, .int x3]) (xE (some (.int v)) (wH G b tbC S' h0)) (wH G b tbC S h0)) (hb : gB G ≤ b) (hd : 81 ≤ d) : VM G mL_then d 0 0 [.ref (b + 0), .int x1, .int x2, .int x3, .ref (b + 68 + 35)] (xE (some (.int 0)) (jH G b S' T (vp_updL fo 0 v.toInt64) hS y)) (jH G b S T fo hS y) := by
  refine VM_start (ls := [some (.ref (b + 0)), some (.int x1), some (.int x2), some (.int x3), some (.ref (b + 68 + 35)), none]) rfl ?_
  refine V_aload (pc := 0) dL_then_0 rfl ?_
  refine V_iconst (pc := 2) (v := 0) dL_then_2 (by decide) ?_
  refine V_aload_n (pc := 3) (i := 0) dL_then_3 rfl rfl ?_
  refine V_iload_n (pc := 4) (i := 1) dL_then_4 rfl rfl ?_
  refine V_iload_n (pc := 5) (i := 2) dL_then_5 rfl rfl ?_
  refine V_iload_n (pc := 6) (i := 3) dL_then_6 rfl rfl ?_
  refine J_C (pc := 7) dL_then_7 cL_44 kC rfl (Nat.le_of_ble_eq_true rfl) rfl hd (Nat.le_of_ble_eq_true rfl) ?_
  refine V_i2l (pc := 10) dL_then_10 rfl ?_
  refine J_last (pc := 11) dL_then_11 hb ?_
  refine V_goto (pc := 12) 23 dL_then_12 rfl ?_
  refine V_iconst (pc := 23) (v := 0) dL_then_23 (by decide) ?_
  exact VE_iret (pc := 24) dL_then_24 rfl rfl rfl
theorem L_then_NSE {x1 x2 x3 : Int32} (kC : ∀ h0 : xH, VM G mX11_then 80 1 6 (.ref (b + 0) :: [.int x1, .int x2, .int x3]) (xT NSE (wH G b tbC S h0)) (wH G b tbC S h0)) (hb : gB G ≤ b) (hd : 81 ≤ d) : VM G mL_then d 1 6 [.ref (b + 0), .int x1, .int x2, .int x3, .ref (b + 68 + 35)] (xF (some (.int 1)) (jH G b S T fo hS y)) (jH G b S T fo hS y) := by
  refine VM_start (ls := [some (.ref (b + 0)), some (.int x1), some (.int x2), some (.int x3), some (.ref (b + 68 + 35)), none]) rfl ?_
  refine V_aload (pc := 0) dL_then_0 rfl ?_
  refine V_iconst (pc := 2) (v := 0) dL_then_2 (by decide) ?_
  refine V_aload_n (pc := 3) (i := 0) dL_then_3 rfl rfl ?_
  refine V_iload_n (pc := 4) (i := 1) dL_then_4 rfl rfl ?_
  refine V_iload_n (pc := 5) (i := 2) dL_then_5 rfl rfl ?_
  refine V_iload_n (pc := 6) (i := 3) dL_then_6 rfl rfl ?_
  refine J_Cth (pc := 7) (bc := 0) (bs := 0) dL_then_7 cL_44 kC rfl (Nat.le_of_ble_eq_true rfl) rfl hd (Nat.le_of_ble_eq_true rfl) (fun y' => ?_)
  refine VX_catch [] ⟨0, 12, 15, 18⟩ [⟨0, 12, 19, 13⟩] rfl (fun z hz => by cases hz) (by decide) (by decide) w_lN (by decide +kernel) (fun q => ?_)
  refine V_astore (pc := 15) dL_then_15 (by decide) rfl ?_
  refine V_iconst (pc := 17) (v := 1) dL_then_17 (by decide) ?_
  exact VF_iret (pc := 18) dL_then_18 rfl rfl rfl
theorem L_then_IAE {x1 x2 x3 : Int32} (kC : ∀ h0 : xH, VM G mX11_then 80 1 6 (.ref (b + 0) :: [.int x1, .int x2, .int x3]) (xT IAE (wH G b tbC S h0)) (wH G b tbC S h0)) (hb : gB G ≤ b) (hd : 81 ≤ d) : VM G mL_then d 1 6 [.ref (b + 0), .int x1, .int x2, .int x3, .ref (b + 68 + 35)] (xF (some (.int 2)) (jH G b S T fo hS y)) (jH G b S T fo hS y) := by
  refine VM_start (ls := [some (.ref (b + 0)), some (.int x1), some (.int x2), some (.int x3), some (.ref (b + 68 + 35)), none]) rfl ?_
  refine V_aload (pc := 0) dL_then_0 rfl ?_
  refine V_iconst (pc := 2) (v := 0) dL_then_2 (by decide) ?_
  refine V_aload_n (pc := 3) (i := 0) dL_then_3 rfl rfl ?_
  refine V_iload_n (pc := 4) (i := 1) dL_then_4 rfl rfl ?_
  refine V_iload_n (pc := 5) (i := 2) dL_then_5 rfl rfl ?_
  refine V_iload_n (pc := 6) (i := 3) dL_then_6 rfl rfl ?_
  refine J_Cth (pc := 7) (bc := 0) (bs := 0) dL_then_7 cL_44 kC rfl (Nat.le_of_ble_eq_true rfl) rfl hd (Nat.le_of_ble_eq_true rfl) (fun y' => ?_)
  refine VX_catch [⟨0, 12, 15, 18⟩] ⟨0, 12, 19, 13⟩ [] rfl (fun z hz => by cases (List.mem_singleton.mp hz); exact ⟨by decide, w_lN, rfl⟩) (by decide) (by decide) w_lI (by decide +kernel) (fun q => ?_)
  refine V_astore (pc := 19) dL_then_19 (by decide) rfl ?_
  refine V_iconst (pc := 21) (v := 2) dL_then_21 (by decide) ?_
  exact VF_iret (pc := 22) dL_then_22 rfl rfl rfl
theorem L_first_ok {x1 : Int32} {v : Int32} (kC : ∀ h0 : xH, VM G mX11_first 80 0 0 (.ref (b + 0) :: [.int x1]) (xE (some (.int v)) (wH G b tbC S' h0)) (wH G b tbC S h0)) (hb : gB G ≤ b) (hd : 81 ≤ d) : VM G mL_first d 0 0 [.ref (b + 0), .int x1, .ref (b + 68 + 35)] (xE (some (.int 0)) (jH G b S' T (vp_updL fo 0 v.toInt64) hS y)) (jH G b S T fo hS y) := by
  refine VM_start (ls := [some (.ref (b + 0)), some (.int x1), some (.ref (b + 68 + 35)), none]) rfl ?_
  refine V_aload_n (pc := 0) (i := 2) dL_first_0 rfl rfl ?_
  refine V_iconst (pc := 1) (v := 0) dL_first_1 (by decide) ?_
  refine V_aload_n (pc := 2) (i := 0) dL_first_2 rfl rfl ?_
  refine V_iload_n (pc := 3) (i := 1) dL_first_3 rfl rfl ?_
  refine J_C (pc := 4) dL_first_4 cL_48 kC rfl (Nat.le_of_ble_eq_true rfl) rfl hd (Nat.le_of_ble_eq_true rfl) ?_
  refine V_i2l (pc := 7) dL_first_7 rfl ?_
  refine J_last (pc := 8) dL_first_8 hb ?_
  refine V_goto (pc := 9) 15 dL_first_9 rfl ?_
  refine V_iconst (pc := 15) (v := 0) dL_first_15 (by decide) ?_
  exact VE_iret (pc := 16) dL_first_16 rfl rfl rfl
theorem L_first_NSE {x1 : Int32} (kC : ∀ h0 : xH, VM G mX11_first 80 1 6 (.ref (b + 0) :: [.int x1]) (xT NSE (wH G b tbC S h0)) (wH G b tbC S h0)) (hb : gB G ≤ b) (hd : 81 ≤ d) : VM G mL_first d 1 6 [.ref (b + 0), .int x1, .ref (b + 68 + 35)] (xF (some (.int 1)) (jH G b S T fo hS y)) (jH G b S T fo hS y) := by
  refine VM_start (ls := [some (.ref (b + 0)), some (.int x1), some (.ref (b + 68 + 35)), none]) rfl ?_
  refine V_aload_n (pc := 0) (i := 2) dL_first_0 rfl rfl ?_
  refine V_iconst (pc := 1) (v := 0) dL_first_1 (by decide) ?_
  refine V_aload_n (pc := 2) (i := 0) dL_first_2 rfl rfl ?_
  refine V_iload_n (pc := 3) (i := 1) dL_first_3 rfl rfl ?_
  refine J_Cth (pc := 4) (bc := 0) (bs := 0) dL_first_4 cL_48 kC rfl (Nat.le_of_ble_eq_true rfl) rfl hd (Nat.le_of_ble_eq_true rfl) (fun y' => ?_)
  refine VX_catch [] ⟨0, 9, 12, 18⟩ [] rfl (fun z hz => by cases hz) (by decide) (by decide) w_lN (by decide +kernel) (fun q => ?_)
  refine V_astore_n (pc := 12) (i := 3) dL_first_12 rfl (by decide) rfl ?_
  refine V_iconst (pc := 13) (v := 1) dL_first_13 (by decide) ?_
  exact VF_iret (pc := 14) dL_first_14 rfl rfl rfl
theorem L_waiting_ok {x1 x2 : Int32} {v : Int32} (kC : ∀ h0 : xH, VM G mX11_waiting 80 0 0 (.ref (b + 0) :: [.int x1, .int x2]) (xE (some (.int v)) (wH G b tbC S' h0)) (wH G b tbC S h0)) (hb : gB G ≤ b) (hd : 81 ≤ d) : VM G mL_waiting d 0 0 [.ref (b + 0), .int x1, .int x2, .ref (b + 68 + 35)] (xE (some (.int 0)) (jH G b S' T (vp_updL fo 0 v.toInt64) hS y)) (jH G b S T fo hS y) := by
  refine VM_start (ls := [some (.ref (b + 0)), some (.int x1), some (.int x2), some (.ref (b + 68 + 35)), none]) rfl ?_
  refine V_aload_n (pc := 0) (i := 3) dL_waiting_0 rfl rfl ?_
  refine V_iconst (pc := 1) (v := 0) dL_waiting_1 (by decide) ?_
  refine V_aload_n (pc := 2) (i := 0) dL_waiting_2 rfl rfl ?_
  refine V_iload_n (pc := 3) (i := 1) dL_waiting_3 rfl rfl ?_
  refine V_iload_n (pc := 4) (i := 2) dL_waiting_4 rfl rfl ?_
  refine J_C (pc := 5) dL_waiting_5 cL_51 kC rfl (Nat.le_of_ble_eq_true rfl) rfl hd (Nat.le_of_ble_eq_true rfl) ?_
  refine V_i2l (pc := 8) dL_waiting_8 rfl ?_
  refine J_last (pc := 9) dL_waiting_9 hb ?_
  refine V_goto (pc := 10) 21 dL_waiting_10 rfl ?_
  refine V_iconst (pc := 21) (v := 0) dL_waiting_21 (by decide) ?_
  exact VE_iret (pc := 22) dL_waiting_22 rfl rfl rfl
theorem L_waiting_NSE {x1 x2 : Int32} (kC : ∀ h0 : xH, VM G mX11_waiting 80 1 6 (.ref (b + 0) :: [.int x1, .int x2]) (xT NSE (wH G b tbC S h0)) (wH G b tbC S h0)) (hb : gB G ≤ b) (hd : 81 ≤ d) : VM G mL_waiting d 1 6 [.ref (b + 0), .int x1, .int x2, .ref (b + 68 + 35)] (xF (some (.int 1)) (jH G b S T fo hS y)) (jH G b S T fo hS y) := by
  refine VM_start (ls := [some (.ref (b + 0)), some (.int x1), some (.int x2), some (.ref (b + 68 + 35)), none]) rfl ?_
  refine V_aload_n (pc := 0) (i := 3) dL_waiting_0 rfl rfl ?_
  refine V_iconst (pc := 1) (v := 0) dL_waiting_1 (by decide) ?_
  refine V_aload_n (pc := 2) (i := 0) dL_waiting_2 rfl rfl ?_
  refine V_iload_n (pc := 3) (i := 1) dL_waiting_3 rfl rfl ?_
  refine V_iload_n (pc := 4) (i := 2) dL_waiting_4 rfl rfl ?_
  refine J_Cth (pc := 5) (bc := 0) (bs := 0) dL_waiting_5 cL_51 kC rfl (Nat.le_of_ble_eq_true rfl) rfl hd (Nat.le_of_ble_eq_true rfl) (fun y' => ?_)
  refine VX_catch [] ⟨0, 10, 13, 18⟩ [⟨0, 10, 17, 13⟩] rfl (fun z hz => by cases hz) (by decide) (by decide) w_lN (by decide +kernel) (fun q => ?_)
  refine V_astore (pc := 13) dL_waiting_13 (by decide) rfl ?_
  refine V_iconst (pc := 15) (v := 1) dL_waiting_15 (by decide) ?_
  exact VF_iret (pc := 16) dL_waiting_16 rfl rfl rfl
theorem L_waiting_IAE {x1 x2 : Int32} (kC : ∀ h0 : xH, VM G mX11_waiting 80 1 6 (.ref (b + 0) :: [.int x1, .int x2]) (xT IAE (wH G b tbC S h0)) (wH G b tbC S h0)) (hb : gB G ≤ b) (hd : 81 ≤ d) : VM G mL_waiting d 1 6 [.ref (b + 0), .int x1, .int x2, .ref (b + 68 + 35)] (xF (some (.int 2)) (jH G b S T fo hS y)) (jH G b S T fo hS y) := by
  refine VM_start (ls := [some (.ref (b + 0)), some (.int x1), some (.int x2), some (.ref (b + 68 + 35)), none]) rfl ?_
  refine V_aload_n (pc := 0) (i := 3) dL_waiting_0 rfl rfl ?_
  refine V_iconst (pc := 1) (v := 0) dL_waiting_1 (by decide) ?_
  refine V_aload_n (pc := 2) (i := 0) dL_waiting_2 rfl rfl ?_
  refine V_iload_n (pc := 3) (i := 1) dL_waiting_3 rfl rfl ?_
  refine V_iload_n (pc := 4) (i := 2) dL_waiting_4 rfl rfl ?_
  refine J_Cth (pc := 5) (bc := 0) (bs := 0) dL_waiting_5 cL_51 kC rfl (Nat.le_of_ble_eq_true rfl) rfl hd (Nat.le_of_ble_eq_true rfl) (fun y' => ?_)
  refine VX_catch [⟨0, 10, 13, 18⟩] ⟨0, 10, 17, 13⟩ [] rfl (fun z hz => by cases (List.mem_singleton.mp hz); exact ⟨by decide, w_lN, rfl⟩) (by decide) (by decide) w_lI (by decide +kernel) (fun q => ?_)
  refine V_astore (pc := 17) dL_waiting_17 (by decide) rfl ?_
  refine V_iconst (pc := 19) (v := 2) dL_waiting_19 (by decide) ?_
  exact VF_iret (pc := 20) dL_waiting_20 rfl rfl rfl
theorem L_toBear_ok {x1 : Int32} {v : Int32} (kC : ∀ h0 : xH, VM G mX11_toBear 80 0 0 (.ref (b + 0) :: [.int x1]) (xE (some (.int v)) (wH G b tbC S' h0)) (wH G b tbC S h0)) (hb : gB G ≤ b) (hd : 81 ≤ d) : VM G mL_toBear d 0 0 [.ref (b + 0), .int x1, .ref (b + 68 + 35)] (xE (some (.int 0)) (jH G b S' T (vp_updL fo 0 v.toInt64) hS y)) (jH G b S T fo hS y) := by
  refine VM_start (ls := [some (.ref (b + 0)), some (.int x1), some (.ref (b + 68 + 35)), none]) rfl ?_
  refine V_aload_n (pc := 0) (i := 2) dL_toBear_0 rfl rfl ?_
  refine V_iconst (pc := 1) (v := 0) dL_toBear_1 (by decide) ?_
  refine V_aload_n (pc := 2) (i := 0) dL_toBear_2 rfl rfl ?_
  refine V_iload_n (pc := 3) (i := 1) dL_toBear_3 rfl rfl ?_
  refine J_C (pc := 4) dL_toBear_4 cL_54 kC rfl (Nat.le_of_ble_eq_true rfl) rfl hd (Nat.le_of_ble_eq_true rfl) ?_
  refine V_i2l (pc := 7) dL_toBear_7 rfl ?_
  refine J_last (pc := 8) dL_toBear_8 hb ?_
  refine V_goto (pc := 9) 15 dL_toBear_9 rfl ?_
  refine V_iconst (pc := 15) (v := 0) dL_toBear_15 (by decide) ?_
  exact VE_iret (pc := 16) dL_toBear_16 rfl rfl rfl
theorem L_toBear_IAE {x1 : Int32} (kC : ∀ h0 : xH, VM G mX11_toBear 80 1 6 (.ref (b + 0) :: [.int x1]) (xT IAE (wH G b tbC S h0)) (wH G b tbC S h0)) (hb : gB G ≤ b) (hd : 81 ≤ d) : VM G mL_toBear d 1 6 [.ref (b + 0), .int x1, .ref (b + 68 + 35)] (xF (some (.int 1)) (jH G b S T fo hS y)) (jH G b S T fo hS y) := by
  refine VM_start (ls := [some (.ref (b + 0)), some (.int x1), some (.ref (b + 68 + 35)), none]) rfl ?_
  refine V_aload_n (pc := 0) (i := 2) dL_toBear_0 rfl rfl ?_
  refine V_iconst (pc := 1) (v := 0) dL_toBear_1 (by decide) ?_
  refine V_aload_n (pc := 2) (i := 0) dL_toBear_2 rfl rfl ?_
  refine V_iload_n (pc := 3) (i := 1) dL_toBear_3 rfl rfl ?_
  refine J_Cth (pc := 4) (bc := 0) (bs := 0) dL_toBear_4 cL_54 kC rfl (Nat.le_of_ble_eq_true rfl) rfl hd (Nat.le_of_ble_eq_true rfl) (fun y' => ?_)
  refine VX_catch [] ⟨0, 9, 12, 13⟩ [] rfl (fun z hz => by cases hz) (by decide) (by decide) w_lI (by decide +kernel) (fun q => ?_)
  refine V_astore_n (pc := 12) (i := 3) dL_toBear_12 rfl (by decide) rfl ?_
  refine V_iconst (pc := 13) (v := 1) dL_toBear_13 (by decide) ?_
  exact VF_iret (pc := 14) dL_toBear_14 rfl rfl rfl
theorem L_comes_ok {x1 : Int32} {v : Int32} (kC : ∀ h0 : xH, VM G mX11_comes 80 0 0 (.ref (b + 0) :: [.int x1]) (xE (some (.int v)) (wH G b tbC S' h0)) (wH G b tbC S h0)) (hb : gB G ≤ b) (hd : 81 ≤ d) : VM G mL_comes d 0 0 [.ref (b + 0), .int x1, .ref (b + 68 + 35)] (xE (some (.int 0)) (jH G b S' T (vp_updL fo 0 v.toInt64) hS y)) (jH G b S T fo hS y) := by
  refine VM_start (ls := [some (.ref (b + 0)), some (.int x1), some (.ref (b + 68 + 35)), none]) rfl ?_
  refine V_aload_n (pc := 0) (i := 2) dL_comes_0 rfl rfl ?_
  refine V_iconst (pc := 1) (v := 0) dL_comes_1 (by decide) ?_
  refine V_aload_n (pc := 2) (i := 0) dL_comes_2 rfl rfl ?_
  refine V_iload_n (pc := 3) (i := 1) dL_comes_3 rfl rfl ?_
  refine J_C (pc := 4) dL_comes_4 cL_57 kC rfl (Nat.le_of_ble_eq_true rfl) rfl hd (Nat.le_of_ble_eq_true rfl) ?_
  refine V_i2l (pc := 7) dL_comes_7 rfl ?_
  refine J_last (pc := 8) dL_comes_8 hb ?_
  refine V_goto (pc := 9) 15 dL_comes_9 rfl ?_
  refine V_iconst (pc := 15) (v := 0) dL_comes_15 (by decide) ?_
  exact VE_iret (pc := 16) dL_comes_16 rfl rfl rfl
theorem L_comes_IAE {x1 : Int32} (kC : ∀ h0 : xH, VM G mX11_comes 80 1 6 (.ref (b + 0) :: [.int x1]) (xT IAE (wH G b tbC S h0)) (wH G b tbC S h0)) (hb : gB G ≤ b) (hd : 81 ≤ d) : VM G mL_comes d 1 6 [.ref (b + 0), .int x1, .ref (b + 68 + 35)] (xF (some (.int 1)) (jH G b S T fo hS y)) (jH G b S T fo hS y) := by
  refine VM_start (ls := [some (.ref (b + 0)), some (.int x1), some (.ref (b + 68 + 35)), none]) rfl ?_
  refine V_aload_n (pc := 0) (i := 2) dL_comes_0 rfl rfl ?_
  refine V_iconst (pc := 1) (v := 0) dL_comes_1 (by decide) ?_
  refine V_aload_n (pc := 2) (i := 0) dL_comes_2 rfl rfl ?_
  refine V_iload_n (pc := 3) (i := 1) dL_comes_3 rfl rfl ?_
  refine J_Cth (pc := 4) (bc := 0) (bs := 0) dL_comes_4 cL_57 kC rfl (Nat.le_of_ble_eq_true rfl) rfl hd (Nat.le_of_ble_eq_true rfl) (fun y' => ?_)
  refine VX_catch [] ⟨0, 9, 12, 13⟩ [] rfl (fun z hz => by cases hz) (by decide) (by decide) w_lI (by decide +kernel) (fun q => ?_)
  refine V_astore_n (pc := 12) (i := 3) dL_comes_12 rfl (by decide) rfl ?_
  refine V_iconst (pc := 13) (v := 1) dL_comes_13 (by decide) ?_
  exact VF_iret (pc := 14) dL_comes_14 rfl rfl rfl
theorem L_why_ok {x1 x2 : Int32} {v : Int32} (kC : ∀ h0 : xH, VM G mX11_why 80 0 0 (.ref (b + 0) :: [.int x1, .int x2]) (xE (some (.int v)) (wH G b tbC S' h0)) (wH G b tbC S h0)) (hb : gB G ≤ b) (hd : 81 ≤ d) : VM G mL_why d 0 0 [.ref (b + 0), .int x1, .int x2, .ref (b + 68 + 35)] (xE (some (.int 0)) (jH G b S' T (vp_updL fo 0 v.toInt64) hS y)) (jH G b S T fo hS y) := by
  refine VM_start (ls := [some (.ref (b + 0)), some (.int x1), some (.int x2), some (.ref (b + 68 + 35)), none]) rfl ?_
  refine V_aload_n (pc := 0) (i := 3) dL_why_0 rfl rfl ?_
  refine V_iconst (pc := 1) (v := 0) dL_why_1 (by decide) ?_
  refine V_aload_n (pc := 2) (i := 0) dL_why_2 rfl rfl ?_
  refine V_iload_n (pc := 3) (i := 1) dL_why_3 rfl rfl ?_
  refine V_iload_n (pc := 4) (i := 2) dL_why_4 rfl rfl ?_
  refine J_C (pc := 5) dL_why_5 cL_60 kC rfl (Nat.le_of_ble_eq_true rfl) rfl hd (Nat.le_of_ble_eq_true rfl) ?_
  refine V_i2l (pc := 8) dL_why_8 rfl ?_
  refine J_last (pc := 9) dL_why_9 hb ?_
  refine V_goto (pc := 10) 21 dL_why_10 rfl ?_
  refine V_iconst (pc := 21) (v := 0) dL_why_21 (by decide) ?_
  exact VE_iret (pc := 22) dL_why_22 rfl rfl rfl
theorem L_why_NSE {x1 x2 : Int32} (kC : ∀ h0 : xH, VM G mX11_why 80 1 6 (.ref (b + 0) :: [.int x1, .int x2]) (xT NSE (wH G b tbC S h0)) (wH G b tbC S h0)) (hb : gB G ≤ b) (hd : 81 ≤ d) : VM G mL_why d 1 6 [.ref (b + 0), .int x1, .int x2, .ref (b + 68 + 35)] (xF (some (.int 1)) (jH G b S T fo hS y)) (jH G b S T fo hS y) := by
  refine VM_start (ls := [some (.ref (b + 0)), some (.int x1), some (.int x2), some (.ref (b + 68 + 35)), none]) rfl ?_
  refine V_aload_n (pc := 0) (i := 3) dL_why_0 rfl rfl ?_
  refine V_iconst (pc := 1) (v := 0) dL_why_1 (by decide) ?_
  refine V_aload_n (pc := 2) (i := 0) dL_why_2 rfl rfl ?_
  refine V_iload_n (pc := 3) (i := 1) dL_why_3 rfl rfl ?_
  refine V_iload_n (pc := 4) (i := 2) dL_why_4 rfl rfl ?_
  refine J_Cth (pc := 5) (bc := 0) (bs := 0) dL_why_5 cL_60 kC rfl (Nat.le_of_ble_eq_true rfl) rfl hd (Nat.le_of_ble_eq_true rfl) (fun y' => ?_)
  refine VX_catch [] ⟨0, 10, 13, 18⟩ [⟨0, 10, 17, 13⟩] rfl (fun z hz => by cases hz) (by decide) (by decide) w_lN (by decide +kernel) (fun q => ?_)
  refine V_astore (pc := 13) dL_why_13 (by decide) rfl ?_
  refine V_iconst (pc := 15) (v := 1) dL_why_15 (by decide) ?_
  exact VF_iret (pc := 16) dL_why_16 rfl rfl rfl
theorem L_why_IAE {x1 x2 : Int32} (kC : ∀ h0 : xH, VM G mX11_why 80 1 6 (.ref (b + 0) :: [.int x1, .int x2]) (xT IAE (wH G b tbC S h0)) (wH G b tbC S h0)) (hb : gB G ≤ b) (hd : 81 ≤ d) : VM G mL_why d 1 6 [.ref (b + 0), .int x1, .int x2, .ref (b + 68 + 35)] (xF (some (.int 2)) (jH G b S T fo hS y)) (jH G b S T fo hS y) := by
  refine VM_start (ls := [some (.ref (b + 0)), some (.int x1), some (.int x2), some (.ref (b + 68 + 35)), none]) rfl ?_
  refine V_aload_n (pc := 0) (i := 3) dL_why_0 rfl rfl ?_
  refine V_iconst (pc := 1) (v := 0) dL_why_1 (by decide) ?_
  refine V_aload_n (pc := 2) (i := 0) dL_why_2 rfl rfl ?_
  refine V_iload_n (pc := 3) (i := 1) dL_why_3 rfl rfl ?_
  refine V_iload_n (pc := 4) (i := 2) dL_why_4 rfl rfl ?_
  refine J_Cth (pc := 5) (bc := 0) (bs := 0) dL_why_5 cL_60 kC rfl (Nat.le_of_ble_eq_true rfl) rfl hd (Nat.le_of_ble_eq_true rfl) (fun y' => ?_)
  refine VX_catch [⟨0, 10, 13, 18⟩] ⟨0, 10, 17, 13⟩ [] rfl (fun z hz => by cases (List.mem_singleton.mp hz); exact ⟨by decide, w_lN, rfl⟩) (by decide) (by decide) w_lI (by decide +kernel) (fun q => ?_)
  refine V_astore (pc := 17) dL_why_17 (by decide) rfl ?_
  refine V_iconst (pc := 19) (v := 2) dL_why_19 (by decide) ?_
  exact VF_iret (pc := 20) dL_why_20 rfl rfl rfl
theorem L_needed_ok {x1 x2 : Int32} {v : Int32} (kC : ∀ h0 : xH, VM G mX11_needed 80 0 0 (.ref (b + 0) :: [.int x1, .int x2]) (xE (some (.int v)) (wH G b tbC S' h0)) (wH G b tbC S h0)) (hb : gB G ≤ b) (hd : 81 ≤ d) : VM G mL_needed d 0 0 [.ref (b + 0), .int x1, .int x2, .ref (b + 68 + 35)] (xE (some (.int 0)) (jH G b S' T (vp_updL fo 0 v.toInt64) hS y)) (jH G b S T fo hS y) := by
  refine VM_start (ls := [some (.ref (b + 0)), some (.int x1), some (.int x2), some (.ref (b + 68 + 35)), none]) rfl ?_
  refine V_aload_n (pc := 0) (i := 3) dL_needed_0 rfl rfl ?_
  refine V_iconst (pc := 1) (v := 0) dL_needed_1 (by decide) ?_
  refine V_aload_n (pc := 2) (i := 0) dL_needed_2 rfl rfl ?_
  refine V_iload_n (pc := 3) (i := 1) dL_needed_3 rfl rfl ?_
  refine V_iload_n (pc := 4) (i := 2) dL_needed_4 rfl rfl ?_
  refine J_C (pc := 5) dL_needed_5 cL_63 kC rfl (Nat.le_of_ble_eq_true rfl) rfl hd (Nat.le_of_ble_eq_true rfl) ?_
  refine V_i2l (pc := 8) dL_needed_8 rfl ?_
  refine J_last (pc := 9) dL_needed_9 hb ?_
  refine V_goto (pc := 10) 21 dL_needed_10 rfl ?_
  refine V_iconst (pc := 21) (v := 0) dL_needed_21 (by decide) ?_
  exact VE_iret (pc := 22) dL_needed_22 rfl rfl rfl
theorem L_needed_NSE {x1 x2 : Int32} (kC : ∀ h0 : xH, VM G mX11_needed 80 1 6 (.ref (b + 0) :: [.int x1, .int x2]) (xT NSE (wH G b tbC S h0)) (wH G b tbC S h0)) (hb : gB G ≤ b) (hd : 81 ≤ d) : VM G mL_needed d 1 6 [.ref (b + 0), .int x1, .int x2, .ref (b + 68 + 35)] (xF (some (.int 1)) (jH G b S T fo hS y)) (jH G b S T fo hS y) := by
  refine VM_start (ls := [some (.ref (b + 0)), some (.int x1), some (.int x2), some (.ref (b + 68 + 35)), none]) rfl ?_
  refine V_aload_n (pc := 0) (i := 3) dL_needed_0 rfl rfl ?_
  refine V_iconst (pc := 1) (v := 0) dL_needed_1 (by decide) ?_
  refine V_aload_n (pc := 2) (i := 0) dL_needed_2 rfl rfl ?_
  refine V_iload_n (pc := 3) (i := 1) dL_needed_3 rfl rfl ?_
  refine V_iload_n (pc := 4) (i := 2) dL_needed_4 rfl rfl ?_
  refine J_Cth (pc := 5) (bc := 0) (bs := 0) dL_needed_5 cL_63 kC rfl (Nat.le_of_ble_eq_true rfl) rfl hd (Nat.le_of_ble_eq_true rfl) (fun y' => ?_)
  refine VX_catch [] ⟨0, 10, 13, 18⟩ [⟨0, 10, 17, 13⟩] rfl (fun z hz => by cases hz) (by decide) (by decide) w_lN (by decide +kernel) (fun q => ?_)
  refine V_astore (pc := 13) dL_needed_13 (by decide) rfl ?_
  refine V_iconst (pc := 15) (v := 1) dL_needed_15 (by decide) ?_
  exact VF_iret (pc := 16) dL_needed_16 rfl rfl rfl
theorem L_needed_IAE {x1 x2 : Int32} (kC : ∀ h0 : xH, VM G mX11_needed 80 1 6 (.ref (b + 0) :: [.int x1, .int x2]) (xT IAE (wH G b tbC S h0)) (wH G b tbC S h0)) (hb : gB G ≤ b) (hd : 81 ≤ d) : VM G mL_needed d 1 6 [.ref (b + 0), .int x1, .int x2, .ref (b + 68 + 35)] (xF (some (.int 2)) (jH G b S T fo hS y)) (jH G b S T fo hS y) := by
  refine VM_start (ls := [some (.ref (b + 0)), some (.int x1), some (.int x2), some (.ref (b + 68 + 35)), none]) rfl ?_
  refine V_aload_n (pc := 0) (i := 3) dL_needed_0 rfl rfl ?_
  refine V_iconst (pc := 1) (v := 0) dL_needed_1 (by decide) ?_
  refine V_aload_n (pc := 2) (i := 0) dL_needed_2 rfl rfl ?_
  refine V_iload_n (pc := 3) (i := 1) dL_needed_3 rfl rfl ?_
  refine V_iload_n (pc := 4) (i := 2) dL_needed_4 rfl rfl ?_
  refine J_Cth (pc := 5) (bc := 0) (bs := 0) dL_needed_5 cL_63 kC rfl (Nat.le_of_ble_eq_true rfl) rfl hd (Nat.le_of_ble_eq_true rfl) (fun y' => ?_)
  refine VX_catch [⟨0, 10, 13, 18⟩] ⟨0, 10, 17, 13⟩ [] rfl (fun z hz => by cases (List.mem_singleton.mp hz); exact ⟨by decide, w_lN, rfl⟩) (by decide) (by decide) w_lI (by decide +kernel) (fun q => ?_)
  refine V_astore (pc := 17) dL_needed_17 (by decide) rfl ?_
  refine V_iconst (pc := 19) (v := 2) dL_needed_19 (by decide) ?_
  exact VF_iret (pc := 20) dL_needed_20 rfl rfl rfl
theorem L_fewest_ok {x1 x2 : Int32} {v : Int32} (kC : ∀ h0 : xH, VM G mX11_fewest 80 0 0 (.ref (b + 0) :: [.int x1, .int x2]) (xE (some (.int v)) (wH G b tbC S' h0)) (wH G b tbC S h0)) (hb : gB G ≤ b) (hd : 81 ≤ d) : VM G mL_fewest d 0 0 [.ref (b + 0), .int x1, .int x2, .ref (b + 68 + 35)] (xE (some (.int 0)) (jH G b S' T (vp_updL fo 0 v.toInt64) hS y)) (jH G b S T fo hS y) := by
  refine VM_start (ls := [some (.ref (b + 0)), some (.int x1), some (.int x2), some (.ref (b + 68 + 35)), none]) rfl ?_
  refine V_aload_n (pc := 0) (i := 3) dL_fewest_0 rfl rfl ?_
  refine V_iconst (pc := 1) (v := 0) dL_fewest_1 (by decide) ?_
  refine V_aload_n (pc := 2) (i := 0) dL_fewest_2 rfl rfl ?_
  refine V_iload_n (pc := 3) (i := 1) dL_fewest_3 rfl rfl ?_
  refine V_iload_n (pc := 4) (i := 2) dL_fewest_4 rfl rfl ?_
  refine J_C (pc := 5) dL_fewest_5 cL_66 kC rfl (Nat.le_of_ble_eq_true rfl) rfl hd (Nat.le_of_ble_eq_true rfl) ?_
  refine V_i2l (pc := 8) dL_fewest_8 rfl ?_
  refine J_last (pc := 9) dL_fewest_9 hb ?_
  refine V_goto (pc := 10) 21 dL_fewest_10 rfl ?_
  refine V_iconst (pc := 21) (v := 0) dL_fewest_21 (by decide) ?_
  exact VE_iret (pc := 22) dL_fewest_22 rfl rfl rfl
theorem L_fewest_NSE {x1 x2 : Int32} (kC : ∀ h0 : xH, VM G mX11_fewest 80 1 6 (.ref (b + 0) :: [.int x1, .int x2]) (xT NSE (wH G b tbC S h0)) (wH G b tbC S h0)) (hb : gB G ≤ b) (hd : 81 ≤ d) : VM G mL_fewest d 1 6 [.ref (b + 0), .int x1, .int x2, .ref (b + 68 + 35)] (xF (some (.int 1)) (jH G b S T fo hS y)) (jH G b S T fo hS y) := by
  refine VM_start (ls := [some (.ref (b + 0)), some (.int x1), some (.int x2), some (.ref (b + 68 + 35)), none]) rfl ?_
  refine V_aload_n (pc := 0) (i := 3) dL_fewest_0 rfl rfl ?_
  refine V_iconst (pc := 1) (v := 0) dL_fewest_1 (by decide) ?_
  refine V_aload_n (pc := 2) (i := 0) dL_fewest_2 rfl rfl ?_
  refine V_iload_n (pc := 3) (i := 1) dL_fewest_3 rfl rfl ?_
  refine V_iload_n (pc := 4) (i := 2) dL_fewest_4 rfl rfl ?_
  refine J_Cth (pc := 5) (bc := 0) (bs := 0) dL_fewest_5 cL_66 kC rfl (Nat.le_of_ble_eq_true rfl) rfl hd (Nat.le_of_ble_eq_true rfl) (fun y' => ?_)
  refine VX_catch [] ⟨0, 10, 13, 18⟩ [⟨0, 10, 17, 13⟩] rfl (fun z hz => by cases hz) (by decide) (by decide) w_lN (by decide +kernel) (fun q => ?_)
  refine V_astore (pc := 13) dL_fewest_13 (by decide) rfl ?_
  refine V_iconst (pc := 15) (v := 1) dL_fewest_15 (by decide) ?_
  exact VF_iret (pc := 16) dL_fewest_16 rfl rfl rfl
theorem L_fewest_IAE {x1 x2 : Int32} (kC : ∀ h0 : xH, VM G mX11_fewest 80 1 6 (.ref (b + 0) :: [.int x1, .int x2]) (xT IAE (wH G b tbC S h0)) (wH G b tbC S h0)) (hb : gB G ≤ b) (hd : 81 ≤ d) : VM G mL_fewest d 1 6 [.ref (b + 0), .int x1, .int x2, .ref (b + 68 + 35)] (xF (some (.int 2)) (jH G b S T fo hS y)) (jH G b S T fo hS y) := by
  refine VM_start (ls := [some (.ref (b + 0)), some (.int x1), some (.int x2), some (.ref (b + 68 + 35)), none]) rfl ?_
  refine V_aload_n (pc := 0) (i := 3) dL_fewest_0 rfl rfl ?_
  refine V_iconst (pc := 1) (v := 0) dL_fewest_1 (by decide) ?_
  refine V_aload_n (pc := 2) (i := 0) dL_fewest_2 rfl rfl ?_
  refine V_iload_n (pc := 3) (i := 1) dL_fewest_3 rfl rfl ?_
  refine V_iload_n (pc := 4) (i := 2) dL_fewest_4 rfl rfl ?_
  refine J_Cth (pc := 5) (bc := 0) (bs := 0) dL_fewest_5 cL_66 kC rfl (Nat.le_of_ble_eq_true rfl) rfl hd (Nat.le_of_ble_eq_true rfl) (fun y' => ?_)
  refine VX_catch [⟨0, 10, 13, 18⟩] ⟨0, 10, 17, 13⟩ [] rfl (fun z hz => by cases (List.mem_singleton.mp hz); exact ⟨by decide, w_lN, rfl⟩) (by decide) (by decide) w_lI (by decide +kernel) (fun q => ?_)
  refine V_astore (pc := 17) dL_fewest_17 (by decide) rfl ?_
  refine V_iconst (pc := 19) (v := 2) dL_fewest_19 (by decide) ?_
  exact VF_iret (pc := 20) dL_fewest_20 rfl rfl rfl
theorem L_leads_ok {x1 x2 : Int32} {v : Int32} (kC : ∀ h0 : xH, VM G mX11_leads 80 0 0 (.ref (b + 0) :: [.int x1, .int x2]) (xE (some (.int v)) (wH G b tbC S' h0)) (wH G b tbC S h0)) (hb : gB G ≤ b) (hd : 81 ≤ d) : VM G mL_leads d 0 0 [.ref (b + 0), .int x1, .int x2, .ref (b + 68 + 35)] (xE (some (.int 0)) (jH G b S' T (vp_updL fo 0 (if v = 0 then (0 : Int64) else 1)) hS y)) (jH G b S T fo hS y) := by
  refine VM_start (ls := [some (.ref (b + 0)), some (.int x1), some (.int x2), some (.ref (b + 68 + 35)), none]) rfl ?_
  refine V_aload_n (pc := 0) (i := 3) dL_leads_0 rfl rfl ?_
  refine V_iconst (pc := 1) (v := 0) dL_leads_1 (by decide) ?_
  refine V_aload_n (pc := 2) (i := 0) dL_leads_2 rfl rfl ?_
  refine V_iload_n (pc := 3) (i := 1) dL_leads_3 rfl rfl ?_
  refine V_iload_n (pc := 4) (i := 2) dL_leads_4 rfl rfl ?_
  refine J_C (pc := 5) dL_leads_5 cL_69 kC rfl (Nat.le_of_ble_eq_true rfl) rfl hd (Nat.le_of_ble_eq_true rfl) ?_
  refine V_if_eq (pc := 8) 15 dL_leads_8 rfl (fun c => ?_) (fun c => ?_)
  · rw [if_pos c]
    refine V_lconst (pc := 15) (v := 0) dL_leads_15 (by decide) ?_
    refine J_last (pc := 16) dL_leads_16 hb ?_
    refine V_goto (pc := 17) 24 dL_leads_17 rfl ?_
    refine V_iconst (pc := 24) (v := 0) dL_leads_24 (by decide) ?_
    exact VE_iret (pc := 25) dL_leads_25 rfl rfl rfl
  · rw [if_neg c]
    refine V_lconst (pc := 11) (v := 1) dL_leads_11 (by decide) ?_
    refine V_goto (pc := 12) 16 dL_leads_12 rfl ?_
    refine J_last (pc := 16) dL_leads_16 hb ?_
    refine V_goto (pc := 17) 24 dL_leads_17 rfl ?_
    refine V_iconst (pc := 24) (v := 0) dL_leads_24 (by decide) ?_
    exact VE_iret (pc := 25) dL_leads_25 rfl rfl rfl
theorem L_leads_NSE {x1 x2 : Int32} (kC : ∀ h0 : xH, VM G mX11_leads 80 1 6 (.ref (b + 0) :: [.int x1, .int x2]) (xT NSE (wH G b tbC S h0)) (wH G b tbC S h0)) (hb : gB G ≤ b) (hd : 81 ≤ d) : VM G mL_leads d 1 6 [.ref (b + 0), .int x1, .int x2, .ref (b + 68 + 35)] (xF (some (.int 1)) (jH G b S T fo hS y)) (jH G b S T fo hS y) := by
  refine VM_start (ls := [some (.ref (b + 0)), some (.int x1), some (.int x2), some (.ref (b + 68 + 35)), none]) rfl ?_
  refine V_aload_n (pc := 0) (i := 3) dL_leads_0 rfl rfl ?_
  refine V_iconst (pc := 1) (v := 0) dL_leads_1 (by decide) ?_
  refine V_aload_n (pc := 2) (i := 0) dL_leads_2 rfl rfl ?_
  refine V_iload_n (pc := 3) (i := 1) dL_leads_3 rfl rfl ?_
  refine V_iload_n (pc := 4) (i := 2) dL_leads_4 rfl rfl ?_
  refine J_Cth (pc := 5) (bc := 0) (bs := 0) dL_leads_5 cL_69 kC rfl (Nat.le_of_ble_eq_true rfl) rfl hd (Nat.le_of_ble_eq_true rfl) (fun y' => ?_)
  refine VX_catch [] ⟨0, 17, 20, 18⟩ [] rfl (fun z hz => by cases hz) (by decide) (by decide) w_lN (by decide +kernel) (fun q => ?_)
  refine V_astore (pc := 20) dL_leads_20 (by decide) rfl ?_
  refine V_iconst (pc := 22) (v := 1) dL_leads_22 (by decide) ?_
  exact VF_iret (pc := 23) dL_leads_23 rfl rfl rfl
theorem L_like_ok {x1 x2 : Int32} {v : Int32} (kC : ∀ h0 : xH, VM G mX11_like 80 0 0 (.ref (b + 0) :: [.int x1, .int x2]) (xE (some (.int v)) (wH G b tbC S' h0)) (wH G b tbC S h0)) (hb : gB G ≤ b) (hd : 81 ≤ d) : VM G mL_like d 0 0 [.ref (b + 0), .int x1, .int x2, .ref (b + 68 + 35)] (xE (some (.int 0)) (jH G b S' T (vp_updL fo 0 v.toInt64) hS y)) (jH G b S T fo hS y) := by
  refine VM_start (ls := [some (.ref (b + 0)), some (.int x1), some (.int x2), some (.ref (b + 68 + 35)), none]) rfl ?_
  refine V_aload_n (pc := 0) (i := 3) dL_like_0 rfl rfl ?_
  refine V_iconst (pc := 1) (v := 0) dL_like_1 (by decide) ?_
  refine V_aload_n (pc := 2) (i := 0) dL_like_2 rfl rfl ?_
  refine V_iload_n (pc := 3) (i := 1) dL_like_3 rfl rfl ?_
  refine V_iload_n (pc := 4) (i := 2) dL_like_4 rfl rfl ?_
  refine J_C (pc := 5) dL_like_5 cL_73 kC rfl (Nat.le_of_ble_eq_true rfl) rfl hd (Nat.le_of_ble_eq_true rfl) ?_
  refine V_i2l (pc := 8) dL_like_8 rfl ?_
  refine J_last (pc := 9) dL_like_9 hb ?_
  refine V_goto (pc := 10) 17 dL_like_10 rfl ?_
  refine V_iconst (pc := 17) (v := 0) dL_like_17 (by decide) ?_
  exact VE_iret (pc := 18) dL_like_18 rfl rfl rfl
theorem L_like_NSE {x1 x2 : Int32} (kC : ∀ h0 : xH, VM G mX11_like 80 1 6 (.ref (b + 0) :: [.int x1, .int x2]) (xT NSE (wH G b tbC S h0)) (wH G b tbC S h0)) (hb : gB G ≤ b) (hd : 81 ≤ d) : VM G mL_like d 1 6 [.ref (b + 0), .int x1, .int x2, .ref (b + 68 + 35)] (xF (some (.int 1)) (jH G b S T fo hS y)) (jH G b S T fo hS y) := by
  refine VM_start (ls := [some (.ref (b + 0)), some (.int x1), some (.int x2), some (.ref (b + 68 + 35)), none]) rfl ?_
  refine V_aload_n (pc := 0) (i := 3) dL_like_0 rfl rfl ?_
  refine V_iconst (pc := 1) (v := 0) dL_like_1 (by decide) ?_
  refine V_aload_n (pc := 2) (i := 0) dL_like_2 rfl rfl ?_
  refine V_iload_n (pc := 3) (i := 1) dL_like_3 rfl rfl ?_
  refine V_iload_n (pc := 4) (i := 2) dL_like_4 rfl rfl ?_
  refine J_Cth (pc := 5) (bc := 0) (bs := 0) dL_like_5 cL_73 kC rfl (Nat.le_of_ble_eq_true rfl) rfl hd (Nat.le_of_ble_eq_true rfl) (fun y' => ?_)
  refine VX_catch [] ⟨0, 10, 13, 18⟩ [] rfl (fun z hz => by cases hz) (by decide) (by decide) w_lN (by decide +kernel) (fun q => ?_)
  refine V_astore (pc := 13) dL_like_13 (by decide) rfl ?_
  refine V_iconst (pc := 15) (v := 1) dL_like_15 (by decide) ?_
  exact VF_iret (pc := 16) dL_like_16 rfl rfl rfl
theorem L_toSend_ok {x1 : Int32} {v : Int32} (kC : ∀ h0 : xH, VM G mX11_toSend 80 0 0 (.ref (b + 0) :: [.int x1]) (xE (some (.int v)) (wH G b tbC S' h0)) (wH G b tbC S h0)) (hb : gB G ≤ b) (hd : 81 ≤ d) : VM G mL_toSend d 0 0 [.ref (b + 0), .int x1, .ref (b + 68 + 35)] (xE (some (.int 0)) (jH G b S' T (vp_updL fo 0 v.toInt64) hS y)) (jH G b S T fo hS y) := by
  refine VM_start (ls := [some (.ref (b + 0)), some (.int x1), some (.ref (b + 68 + 35)), none]) rfl ?_
  refine V_aload_n (pc := 0) (i := 2) dL_toSend_0 rfl rfl ?_
  refine V_iconst (pc := 1) (v := 0) dL_toSend_1 (by decide) ?_
  refine V_aload_n (pc := 2) (i := 0) dL_toSend_2 rfl rfl ?_
  refine V_iload_n (pc := 3) (i := 1) dL_toSend_3 rfl rfl ?_
  refine J_C (pc := 4) dL_toSend_4 cL_76 kC rfl (Nat.le_of_ble_eq_true rfl) rfl hd (Nat.le_of_ble_eq_true rfl) ?_
  refine V_i2l (pc := 7) dL_toSend_7 rfl ?_
  refine J_last (pc := 8) dL_toSend_8 hb ?_
  refine V_goto (pc := 9) 15 dL_toSend_9 rfl ?_
  refine V_iconst (pc := 15) (v := 0) dL_toSend_15 (by decide) ?_
  exact VE_iret (pc := 16) dL_toSend_16 rfl rfl rfl
theorem L_toSend_IAE {x1 : Int32} (kC : ∀ h0 : xH, VM G mX11_toSend 80 1 6 (.ref (b + 0) :: [.int x1]) (xT IAE (wH G b tbC S h0)) (wH G b tbC S h0)) (hb : gB G ≤ b) (hd : 81 ≤ d) : VM G mL_toSend d 1 6 [.ref (b + 0), .int x1, .ref (b + 68 + 35)] (xF (some (.int 1)) (jH G b S T fo hS y)) (jH G b S T fo hS y) := by
  refine VM_start (ls := [some (.ref (b + 0)), some (.int x1), some (.ref (b + 68 + 35)), none]) rfl ?_
  refine V_aload_n (pc := 0) (i := 2) dL_toSend_0 rfl rfl ?_
  refine V_iconst (pc := 1) (v := 0) dL_toSend_1 (by decide) ?_
  refine V_aload_n (pc := 2) (i := 0) dL_toSend_2 rfl rfl ?_
  refine V_iload_n (pc := 3) (i := 1) dL_toSend_3 rfl rfl ?_
  refine J_Cth (pc := 4) (bc := 0) (bs := 0) dL_toSend_4 cL_76 kC rfl (Nat.le_of_ble_eq_true rfl) rfl hd (Nat.le_of_ble_eq_true rfl) (fun y' => ?_)
  refine VX_catch [] ⟨0, 9, 12, 13⟩ [] rfl (fun z hz => by cases hz) (by decide) (by decide) w_lI (by decide +kernel) (fun q => ?_)
  refine V_astore_n (pc := 12) (i := 3) dL_toSend_12 rfl (by decide) rfl ?_
  refine V_iconst (pc := 13) (v := 1) dL_toSend_13 (by decide) ?_
  exact VF_iret (pc := 14) dL_toSend_14 rfl rfl rfl
theorem L_happiest_ok {x1 : Int32} {v : Int32} (kC : ∀ h0 : xH, VM G mX11_happiest 80 0 0 (.ref (b + 0) :: [.int x1]) (xE (some (.int v)) (wH G b tbC S' h0)) (wH G b tbC S h0)) (hb : gB G ≤ b) (hd : 81 ≤ d) : VM G mL_happiest d 0 0 [.ref (b + 0), .int x1, .ref (b + 68 + 35)] (xE (some (.int 0)) (jH G b S' T (vp_updL fo 0 v.toInt64) hS y)) (jH G b S T fo hS y) := by
  refine VM_start (ls := [some (.ref (b + 0)), some (.int x1), some (.ref (b + 68 + 35)), none]) rfl ?_
  refine V_aload_n (pc := 0) (i := 2) dL_happiest_0 rfl rfl ?_
  refine V_iconst (pc := 1) (v := 0) dL_happiest_1 (by decide) ?_
  refine V_aload_n (pc := 2) (i := 0) dL_happiest_2 rfl rfl ?_
  refine V_iload_n (pc := 3) (i := 1) dL_happiest_3 rfl rfl ?_
  refine J_C (pc := 4) dL_happiest_4 cL_79 kC rfl (Nat.le_of_ble_eq_true rfl) rfl hd (Nat.le_of_ble_eq_true rfl) ?_
  refine V_i2l (pc := 7) dL_happiest_7 rfl ?_
  refine J_last (pc := 8) dL_happiest_8 hb ?_
  refine V_goto (pc := 9) 15 dL_happiest_9 rfl ?_
  refine V_iconst (pc := 15) (v := 0) dL_happiest_15 (by decide) ?_
  exact VE_iret (pc := 16) dL_happiest_16 rfl rfl rfl
theorem L_happiest_NSE {x1 : Int32} (kC : ∀ h0 : xH, VM G mX11_happiest 80 1 6 (.ref (b + 0) :: [.int x1]) (xT NSE (wH G b tbC S h0)) (wH G b tbC S h0)) (hb : gB G ≤ b) (hd : 81 ≤ d) : VM G mL_happiest d 1 6 [.ref (b + 0), .int x1, .ref (b + 68 + 35)] (xF (some (.int 1)) (jH G b S T fo hS y)) (jH G b S T fo hS y) := by
  refine VM_start (ls := [some (.ref (b + 0)), some (.int x1), some (.ref (b + 68 + 35)), none]) rfl ?_
  refine V_aload_n (pc := 0) (i := 2) dL_happiest_0 rfl rfl ?_
  refine V_iconst (pc := 1) (v := 0) dL_happiest_1 (by decide) ?_
  refine V_aload_n (pc := 2) (i := 0) dL_happiest_2 rfl rfl ?_
  refine V_iload_n (pc := 3) (i := 1) dL_happiest_3 rfl rfl ?_
  refine J_Cth (pc := 4) (bc := 0) (bs := 0) dL_happiest_4 cL_79 kC rfl (Nat.le_of_ble_eq_true rfl) rfl hd (Nat.le_of_ble_eq_true rfl) (fun y' => ?_)
  refine VX_catch [] ⟨0, 9, 12, 18⟩ [] rfl (fun z hz => by cases hz) (by decide) (by decide) w_lN (by decide +kernel) (fun q => ?_)
  refine V_astore_n (pc := 12) (i := 3) dL_happiest_12 rfl (by decide) rfl ?_
  refine V_iconst (pc := 13) (v := 1) dL_happiest_13 (by decide) ?_
  exact VF_iret (pc := 14) dL_happiest_14 rfl rfl rfl
theorem L_critical_ok {x1 : Int32} {v : Int32} (kC : ∀ h0 : xH, VM G mX11_critical 80 0 0 (.ref (b + 0) :: [.int x1]) (xE (some (.int v)) (wH G b tbC S' h0)) (wH G b tbC S h0)) (hb : gB G ≤ b) (hd : 81 ≤ d) : VM G mL_critical d 0 0 [.ref (b + 0), .int x1, .ref (b + 68 + 35)] (xE (some (.int 0)) (jH G b S' T (vp_updL fo 0 v.toInt64) hS y)) (jH G b S T fo hS y) := by
  refine VM_start (ls := [some (.ref (b + 0)), some (.int x1), some (.ref (b + 68 + 35)), none]) rfl ?_
  refine V_aload_n (pc := 0) (i := 2) dL_critical_0 rfl rfl ?_
  refine V_iconst (pc := 1) (v := 0) dL_critical_1 (by decide) ?_
  refine V_aload_n (pc := 2) (i := 0) dL_critical_2 rfl rfl ?_
  refine V_iload_n (pc := 3) (i := 1) dL_critical_3 rfl rfl ?_
  refine J_C (pc := 4) dL_critical_4 cL_82 kC rfl (Nat.le_of_ble_eq_true rfl) rfl hd (Nat.le_of_ble_eq_true rfl) ?_
  refine V_i2l (pc := 7) dL_critical_7 rfl ?_
  refine J_last (pc := 8) dL_critical_8 hb ?_
  refine V_goto (pc := 9) 15 dL_critical_9 rfl ?_
  refine V_iconst (pc := 15) (v := 0) dL_critical_15 (by decide) ?_
  exact VE_iret (pc := 16) dL_critical_16 rfl rfl rfl
theorem L_critical_NSE {x1 : Int32} (kC : ∀ h0 : xH, VM G mX11_critical 80 1 6 (.ref (b + 0) :: [.int x1]) (xT NSE (wH G b tbC S h0)) (wH G b tbC S h0)) (hb : gB G ≤ b) (hd : 81 ≤ d) : VM G mL_critical d 1 6 [.ref (b + 0), .int x1, .ref (b + 68 + 35)] (xF (some (.int 1)) (jH G b S T fo hS y)) (jH G b S T fo hS y) := by
  refine VM_start (ls := [some (.ref (b + 0)), some (.int x1), some (.ref (b + 68 + 35)), none]) rfl ?_
  refine V_aload_n (pc := 0) (i := 2) dL_critical_0 rfl rfl ?_
  refine V_iconst (pc := 1) (v := 0) dL_critical_1 (by decide) ?_
  refine V_aload_n (pc := 2) (i := 0) dL_critical_2 rfl rfl ?_
  refine V_iload_n (pc := 3) (i := 1) dL_critical_3 rfl rfl ?_
  refine J_Cth (pc := 4) (bc := 0) (bs := 0) dL_critical_4 cL_82 kC rfl (Nat.le_of_ble_eq_true rfl) rfl hd (Nat.le_of_ble_eq_true rfl) (fun y' => ?_)
  refine VX_catch [] ⟨0, 9, 12, 18⟩ [] rfl (fun z hz => by cases hz) (by decide) (by decide) w_lN (by decide +kernel) (fun q => ?_)
  refine V_astore_n (pc := 12) (i := 3) dL_critical_12 rfl (by decide) rfl ?_
  refine V_iconst (pc := 13) (v := 1) dL_critical_13 (by decide) ?_
  exact VF_iret (pc := 14) dL_critical_14 rfl rfl rfl
theorem L_bestMissed_ok {x1 : Int32} {v : Int32} (kC : ∀ h0 : xH, VM G mX11_bestMissed 80 0 0 (.ref (b + 0) :: [.int x1]) (xE (some (.int v)) (wH G b tbC S' h0)) (wH G b tbC S h0)) (hb : gB G ≤ b) (hd : 81 ≤ d) : VM G mL_bestMissed d 0 0 [.ref (b + 0), .int x1, .ref (b + 68 + 35)] (xE (some (.int 0)) (jH G b S' T (vp_updL fo 0 v.toInt64) hS y)) (jH G b S T fo hS y) := by
  refine VM_start (ls := [some (.ref (b + 0)), some (.int x1), some (.ref (b + 68 + 35)), none]) rfl ?_
  refine V_aload_n (pc := 0) (i := 2) dL_bestMissed_0 rfl rfl ?_
  refine V_iconst (pc := 1) (v := 0) dL_bestMissed_1 (by decide) ?_
  refine V_aload_n (pc := 2) (i := 0) dL_bestMissed_2 rfl rfl ?_
  refine V_iload_n (pc := 3) (i := 1) dL_bestMissed_3 rfl rfl ?_
  refine J_C (pc := 4) dL_bestMissed_4 cL_85 kC rfl (Nat.le_of_ble_eq_true rfl) rfl hd (Nat.le_of_ble_eq_true rfl) ?_
  refine V_i2l (pc := 7) dL_bestMissed_7 rfl ?_
  refine J_last (pc := 8) dL_bestMissed_8 hb ?_
  refine V_goto (pc := 9) 15 dL_bestMissed_9 rfl ?_
  refine V_iconst (pc := 15) (v := 0) dL_bestMissed_15 (by decide) ?_
  exact VE_iret (pc := 16) dL_bestMissed_16 rfl rfl rfl
theorem L_bestMissed_NSE {x1 : Int32} (kC : ∀ h0 : xH, VM G mX11_bestMissed 80 1 6 (.ref (b + 0) :: [.int x1]) (xT NSE (wH G b tbC S h0)) (wH G b tbC S h0)) (hb : gB G ≤ b) (hd : 81 ≤ d) : VM G mL_bestMissed d 1 6 [.ref (b + 0), .int x1, .ref (b + 68 + 35)] (xF (some (.int 1)) (jH G b S T fo hS y)) (jH G b S T fo hS y) := by
  refine VM_start (ls := [some (.ref (b + 0)), some (.int x1), some (.ref (b + 68 + 35)), none]) rfl ?_
  refine V_aload_n (pc := 0) (i := 2) dL_bestMissed_0 rfl rfl ?_
  refine V_iconst (pc := 1) (v := 0) dL_bestMissed_1 (by decide) ?_
  refine V_aload_n (pc := 2) (i := 0) dL_bestMissed_2 rfl rfl ?_
  refine V_iload_n (pc := 3) (i := 1) dL_bestMissed_3 rfl rfl ?_
  refine J_Cth (pc := 4) (bc := 0) (bs := 0) dL_bestMissed_4 cL_85 kC rfl (Nat.le_of_ble_eq_true rfl) rfl hd (Nat.le_of_ble_eq_true rfl) (fun y' => ?_)
  refine VX_catch [] ⟨0, 9, 12, 18⟩ [] rfl (fun z hz => by cases hz) (by decide) (by decide) w_lN (by decide +kernel) (fun q => ?_)
  refine V_astore_n (pc := 12) (i := 3) dL_bestMissed_12 rfl (by decide) rfl ?_
  refine V_iconst (pc := 13) (v := 1) dL_bestMissed_13 (by decide) ?_
  exact VF_iret (pc := 14) dL_bestMissed_14 rfl rfl rfl
theorem L_common_ok {x1 x2 : Int32} {v : Int32} (kC : ∀ h0 : xH, VM G mX11_common 80 0 0 (.ref (b + 0) :: [.int x1, .int x2]) (xE (some (.int v)) (wH G b tbC S' h0)) (wH G b tbC S h0)) (hb : gB G ≤ b) (hd : 81 ≤ d) : VM G mL_common d 0 0 [.ref (b + 0), .int x1, .int x2, .ref (b + 68 + 35)] (xE (some (.int 0)) (jH G b S' T (vp_updL fo 0 v.toInt64) hS y)) (jH G b S T fo hS y) := by
  refine VM_start (ls := [some (.ref (b + 0)), some (.int x1), some (.int x2), some (.ref (b + 68 + 35)), none]) rfl ?_
  refine V_aload_n (pc := 0) (i := 3) dL_common_0 rfl rfl ?_
  refine V_iconst (pc := 1) (v := 0) dL_common_1 (by decide) ?_
  refine V_aload_n (pc := 2) (i := 0) dL_common_2 rfl rfl ?_
  refine V_iload_n (pc := 3) (i := 1) dL_common_3 rfl rfl ?_
  refine V_iload_n (pc := 4) (i := 2) dL_common_4 rfl rfl ?_
  refine J_C (pc := 5) dL_common_5 cL_88 kC rfl (Nat.le_of_ble_eq_true rfl) rfl hd (Nat.le_of_ble_eq_true rfl) ?_
  refine V_i2l (pc := 8) dL_common_8 rfl ?_
  refine J_last (pc := 9) dL_common_9 hb ?_
  refine V_goto (pc := 10) 17 dL_common_10 rfl ?_
  refine V_iconst (pc := 17) (v := 0) dL_common_17 (by decide) ?_
  exact VE_iret (pc := 18) dL_common_18 rfl rfl rfl
theorem L_common_NSE {x1 x2 : Int32} (kC : ∀ h0 : xH, VM G mX11_common 80 1 6 (.ref (b + 0) :: [.int x1, .int x2]) (xT NSE (wH G b tbC S h0)) (wH G b tbC S h0)) (hb : gB G ≤ b) (hd : 81 ≤ d) : VM G mL_common d 1 6 [.ref (b + 0), .int x1, .int x2, .ref (b + 68 + 35)] (xF (some (.int 1)) (jH G b S T fo hS y)) (jH G b S T fo hS y) := by
  refine VM_start (ls := [some (.ref (b + 0)), some (.int x1), some (.int x2), some (.ref (b + 68 + 35)), none]) rfl ?_
  refine V_aload_n (pc := 0) (i := 3) dL_common_0 rfl rfl ?_
  refine V_iconst (pc := 1) (v := 0) dL_common_1 (by decide) ?_
  refine V_aload_n (pc := 2) (i := 0) dL_common_2 rfl rfl ?_
  refine V_iload_n (pc := 3) (i := 1) dL_common_3 rfl rfl ?_
  refine V_iload_n (pc := 4) (i := 2) dL_common_4 rfl rfl ?_
  refine J_Cth (pc := 5) (bc := 0) (bs := 0) dL_common_5 cL_88 kC rfl (Nat.le_of_ble_eq_true rfl) rfl hd (Nat.le_of_ble_eq_true rfl) (fun y' => ?_)
  refine VX_catch [] ⟨0, 10, 13, 18⟩ [] rfl (fun z hz => by cases hz) (by decide) (by decide) w_lN (by decide +kernel) (fun q => ?_)
  refine V_astore (pc := 13) dL_common_13 (by decide) rfl ?_
  refine V_iconst (pc := 15) (v := 1) dL_common_15 (by decide) ?_
  exact VF_iret (pc := 16) dL_common_16 rfl rfl rfl
theorem L_apart_ok {x1 x2 : Int32} {v : Int32} (kC : ∀ h0 : xH, VM G mX11_apart 80 0 0 (.ref (b + 0) :: [.int x1, .int x2]) (xE (some (.int v)) (wH G b tbC S' h0)) (wH G b tbC S h0)) (hb : gB G ≤ b) (hd : 81 ≤ d) : VM G mL_apart d 0 0 [.ref (b + 0), .int x1, .int x2, .ref (b + 68 + 35)] (xE (some (.int 0)) (jH G b S' T (vp_updL fo 0 v.toInt64) hS y)) (jH G b S T fo hS y) := by
  refine VM_start (ls := [some (.ref (b + 0)), some (.int x1), some (.int x2), some (.ref (b + 68 + 35)), none]) rfl ?_
  refine V_aload_n (pc := 0) (i := 3) dL_apart_0 rfl rfl ?_
  refine V_iconst (pc := 1) (v := 0) dL_apart_1 (by decide) ?_
  refine V_aload_n (pc := 2) (i := 0) dL_apart_2 rfl rfl ?_
  refine V_iload_n (pc := 3) (i := 1) dL_apart_3 rfl rfl ?_
  refine V_iload_n (pc := 4) (i := 2) dL_apart_4 rfl rfl ?_
  refine J_C (pc := 5) dL_apart_5 cL_91 kC rfl (Nat.le_of_ble_eq_true rfl) rfl hd (Nat.le_of_ble_eq_true rfl) ?_
  refine V_i2l (pc := 8) dL_apart_8 rfl ?_
  refine J_last (pc := 9) dL_apart_9 hb ?_
  refine V_goto (pc := 10) 17 dL_apart_10 rfl ?_
  refine V_iconst (pc := 17) (v := 0) dL_apart_17 (by decide) ?_
  exact VE_iret (pc := 18) dL_apart_18 rfl rfl rfl
theorem L_apart_NSE {x1 x2 : Int32} (kC : ∀ h0 : xH, VM G mX11_apart 80 1 6 (.ref (b + 0) :: [.int x1, .int x2]) (xT NSE (wH G b tbC S h0)) (wH G b tbC S h0)) (hb : gB G ≤ b) (hd : 81 ≤ d) : VM G mL_apart d 1 6 [.ref (b + 0), .int x1, .int x2, .ref (b + 68 + 35)] (xF (some (.int 1)) (jH G b S T fo hS y)) (jH G b S T fo hS y) := by
  refine VM_start (ls := [some (.ref (b + 0)), some (.int x1), some (.int x2), some (.ref (b + 68 + 35)), none]) rfl ?_
  refine V_aload_n (pc := 0) (i := 3) dL_apart_0 rfl rfl ?_
  refine V_iconst (pc := 1) (v := 0) dL_apart_1 (by decide) ?_
  refine V_aload_n (pc := 2) (i := 0) dL_apart_2 rfl rfl ?_
  refine V_iload_n (pc := 3) (i := 1) dL_apart_3 rfl rfl ?_
  refine V_iload_n (pc := 4) (i := 2) dL_apart_4 rfl rfl ?_
  refine J_Cth (pc := 5) (bc := 0) (bs := 0) dL_apart_5 cL_91 kC rfl (Nat.le_of_ble_eq_true rfl) rfl hd (Nat.le_of_ble_eq_true rfl) (fun y' => ?_)
  refine VX_catch [] ⟨0, 10, 13, 18⟩ [] rfl (fun z hz => by cases hz) (by decide) (by decide) w_lN (by decide +kernel) (fun q => ?_)
  refine V_astore (pc := 13) dL_apart_13 (by decide) rfl ?_
  refine V_iconst (pc := 15) (v := 1) dL_apart_15 (by decide) ?_
  exact VF_iret (pc := 16) dL_apart_16 rfl rfl rfl
theorem L_sets_ok {x1 : Int32} {v : Int32} (kC : ∀ h0 : xH, VM G mX11_sets 80 0 0 (.ref (b + 0) :: [.int x1]) (xE (some (.int v)) (wH G b tbC S' h0)) (wH G b tbC S h0)) (hb : gB G ≤ b) (hd : 81 ≤ d) : VM G mL_sets d 0 0 [.ref (b + 0), .int x1, .ref (b + 68 + 35)] (xE (some (.int 0)) (jH G b S' T (vp_updL fo 0 v.toInt64) hS y)) (jH G b S T fo hS y) := by
  refine VM_start (ls := [some (.ref (b + 0)), some (.int x1), some (.ref (b + 68 + 35)), none]) rfl ?_
  refine V_aload_n (pc := 0) (i := 2) dL_sets_0 rfl rfl ?_
  refine V_iconst (pc := 1) (v := 0) dL_sets_1 (by decide) ?_
  refine V_aload_n (pc := 2) (i := 0) dL_sets_2 rfl rfl ?_
  refine V_iload_n (pc := 3) (i := 1) dL_sets_3 rfl rfl ?_
  refine J_C (pc := 4) dL_sets_4 cL_94 kC rfl (Nat.le_of_ble_eq_true rfl) rfl hd (Nat.le_of_ble_eq_true rfl) ?_
  refine V_i2l (pc := 7) dL_sets_7 rfl ?_
  refine J_last (pc := 8) dL_sets_8 hb ?_
  refine V_goto (pc := 9) 15 dL_sets_9 rfl ?_
  refine V_iconst (pc := 15) (v := 0) dL_sets_15 (by decide) ?_
  exact VE_iret (pc := 16) dL_sets_16 rfl rfl rfl
theorem L_sets_NSE {x1 : Int32} (kC : ∀ h0 : xH, VM G mX11_sets 80 1 6 (.ref (b + 0) :: [.int x1]) (xT NSE (wH G b tbC S h0)) (wH G b tbC S h0)) (hb : gB G ≤ b) (hd : 81 ≤ d) : VM G mL_sets d 1 6 [.ref (b + 0), .int x1, .ref (b + 68 + 35)] (xF (some (.int 1)) (jH G b S T fo hS y)) (jH G b S T fo hS y) := by
  refine VM_start (ls := [some (.ref (b + 0)), some (.int x1), some (.ref (b + 68 + 35)), none]) rfl ?_
  refine V_aload_n (pc := 0) (i := 2) dL_sets_0 rfl rfl ?_
  refine V_iconst (pc := 1) (v := 0) dL_sets_1 (by decide) ?_
  refine V_aload_n (pc := 2) (i := 0) dL_sets_2 rfl rfl ?_
  refine V_iload_n (pc := 3) (i := 1) dL_sets_3 rfl rfl ?_
  refine J_Cth (pc := 4) (bc := 0) (bs := 0) dL_sets_4 cL_94 kC rfl (Nat.le_of_ble_eq_true rfl) rfl hd (Nat.le_of_ble_eq_true rfl) (fun y' => ?_)
  refine VX_catch [] ⟨0, 9, 12, 18⟩ [] rfl (fun z hz => by cases hz) (by decide) (by decide) w_lN (by decide +kernel) (fun q => ?_)
  refine V_astore_n (pc := 12) (i := 3) dL_sets_12 rfl (by decide) rfl ?_
  refine V_iconst (pc := 13) (v := 1) dL_sets_13 (by decide) ?_
  exact VF_iret (pc := 14) dL_sets_14 rfl rfl rfl
theorem L_toDeny_ok {x1 x2 : Int32} {v : Int32} (kC : ∀ h0 : xH, VM G mX11_toDeny 80 0 0 (.ref (b + 0) :: [.int x1, .int x2]) (xE (some (.int v)) (wH G b tbC S' h0)) (wH G b tbC S h0)) (hb : gB G ≤ b) (hd : 81 ≤ d) : VM G mL_toDeny d 0 0 [.ref (b + 0), .int x1, .int x2, .ref (b + 68 + 35)] (xE (some (.int 0)) (jH G b S' T (vp_updL fo 0 v.toInt64) hS y)) (jH G b S T fo hS y) := by
  refine VM_start (ls := [some (.ref (b + 0)), some (.int x1), some (.int x2), some (.ref (b + 68 + 35)), none]) rfl ?_
  refine V_aload_n (pc := 0) (i := 3) dL_toDeny_0 rfl rfl ?_
  refine V_iconst (pc := 1) (v := 0) dL_toDeny_1 (by decide) ?_
  refine V_aload_n (pc := 2) (i := 0) dL_toDeny_2 rfl rfl ?_
  refine V_iload_n (pc := 3) (i := 1) dL_toDeny_3 rfl rfl ?_
  refine V_iload_n (pc := 4) (i := 2) dL_toDeny_4 rfl rfl ?_
  refine J_C (pc := 5) dL_toDeny_5 cL_97 kC rfl (Nat.le_of_ble_eq_true rfl) rfl hd (Nat.le_of_ble_eq_true rfl) ?_
  refine V_i2l (pc := 8) dL_toDeny_8 rfl ?_
  refine J_last (pc := 9) dL_toDeny_9 hb ?_
  refine V_goto (pc := 10) 21 dL_toDeny_10 rfl ?_
  refine V_iconst (pc := 21) (v := 0) dL_toDeny_21 (by decide) ?_
  exact VE_iret (pc := 22) dL_toDeny_22 rfl rfl rfl
theorem L_toDeny_NSE {x1 x2 : Int32} (kC : ∀ h0 : xH, VM G mX11_toDeny 80 1 6 (.ref (b + 0) :: [.int x1, .int x2]) (xT NSE (wH G b tbC S h0)) (wH G b tbC S h0)) (hb : gB G ≤ b) (hd : 81 ≤ d) : VM G mL_toDeny d 1 6 [.ref (b + 0), .int x1, .int x2, .ref (b + 68 + 35)] (xF (some (.int 1)) (jH G b S T fo hS y)) (jH G b S T fo hS y) := by
  refine VM_start (ls := [some (.ref (b + 0)), some (.int x1), some (.int x2), some (.ref (b + 68 + 35)), none]) rfl ?_
  refine V_aload_n (pc := 0) (i := 3) dL_toDeny_0 rfl rfl ?_
  refine V_iconst (pc := 1) (v := 0) dL_toDeny_1 (by decide) ?_
  refine V_aload_n (pc := 2) (i := 0) dL_toDeny_2 rfl rfl ?_
  refine V_iload_n (pc := 3) (i := 1) dL_toDeny_3 rfl rfl ?_
  refine V_iload_n (pc := 4) (i := 2) dL_toDeny_4 rfl rfl ?_
  refine J_Cth (pc := 5) (bc := 0) (bs := 0) dL_toDeny_5 cL_97 kC rfl (Nat.le_of_ble_eq_true rfl) rfl hd (Nat.le_of_ble_eq_true rfl) (fun y' => ?_)
  refine VX_catch [] ⟨0, 10, 13, 18⟩ [⟨0, 10, 17, 13⟩] rfl (fun z hz => by cases hz) (by decide) (by decide) w_lN (by decide +kernel) (fun q => ?_)
  refine V_astore (pc := 13) dL_toDeny_13 (by decide) rfl ?_
  refine V_iconst (pc := 15) (v := 1) dL_toDeny_15 (by decide) ?_
  exact VF_iret (pc := 16) dL_toDeny_16 rfl rfl rfl
theorem L_toDeny_IAE {x1 x2 : Int32} (kC : ∀ h0 : xH, VM G mX11_toDeny 80 1 6 (.ref (b + 0) :: [.int x1, .int x2]) (xT IAE (wH G b tbC S h0)) (wH G b tbC S h0)) (hb : gB G ≤ b) (hd : 81 ≤ d) : VM G mL_toDeny d 1 6 [.ref (b + 0), .int x1, .int x2, .ref (b + 68 + 35)] (xF (some (.int 2)) (jH G b S T fo hS y)) (jH G b S T fo hS y) := by
  refine VM_start (ls := [some (.ref (b + 0)), some (.int x1), some (.int x2), some (.ref (b + 68 + 35)), none]) rfl ?_
  refine V_aload_n (pc := 0) (i := 3) dL_toDeny_0 rfl rfl ?_
  refine V_iconst (pc := 1) (v := 0) dL_toDeny_1 (by decide) ?_
  refine V_aload_n (pc := 2) (i := 0) dL_toDeny_2 rfl rfl ?_
  refine V_iload_n (pc := 3) (i := 1) dL_toDeny_3 rfl rfl ?_
  refine V_iload_n (pc := 4) (i := 2) dL_toDeny_4 rfl rfl ?_
  refine J_Cth (pc := 5) (bc := 0) (bs := 0) dL_toDeny_5 cL_97 kC rfl (Nat.le_of_ble_eq_true rfl) rfl hd (Nat.le_of_ble_eq_true rfl) (fun y' => ?_)
  refine VX_catch [⟨0, 10, 13, 18⟩] ⟨0, 10, 17, 13⟩ [] rfl (fun z hz => by cases (List.mem_singleton.mp hz); exact ⟨by decide, w_lN, rfl⟩) (by decide) (by decide) w_lI (by decide +kernel) (fun q => ?_)
  refine V_astore (pc := 17) dL_toDeny_17 (by decide) rfl ?_
  refine V_iconst (pc := 19) (v := 2) dL_toDeny_19 (by decide) ?_
  exact VF_iret (pc := 20) dL_toDeny_20 rfl rfl rfl
theorem L_sources_ok {x1 : Int32} {v : Int32} (kC : ∀ h0 : xH, VM G mX11_sources 80 0 0 (.ref (b + 0) :: [.int x1]) (xE (some (.int v)) (wH G b tbC S' h0)) (wH G b tbC S h0)) (hb : gB G ≤ b) (hd : 81 ≤ d) : VM G mL_sources d 0 0 [.ref (b + 0), .int x1, .ref (b + 68 + 35)] (xE (some (.int 0)) (jH G b S' T (vp_updL fo 0 v.toInt64) hS y)) (jH G b S T fo hS y) := by
  refine VM_start (ls := [some (.ref (b + 0)), some (.int x1), some (.ref (b + 68 + 35)), none]) rfl ?_
  refine V_aload_n (pc := 0) (i := 2) dL_sources_0 rfl rfl ?_
  refine V_iconst (pc := 1) (v := 0) dL_sources_1 (by decide) ?_
  refine V_aload_n (pc := 2) (i := 0) dL_sources_2 rfl rfl ?_
  refine V_iload_n (pc := 3) (i := 1) dL_sources_3 rfl rfl ?_
  refine J_C (pc := 4) dL_sources_4 cL_100 kC rfl (Nat.le_of_ble_eq_true rfl) rfl hd (Nat.le_of_ble_eq_true rfl) ?_
  refine V_i2l (pc := 7) dL_sources_7 rfl ?_
  refine J_last (pc := 8) dL_sources_8 hb ?_
  refine V_goto (pc := 9) 15 dL_sources_9 rfl ?_
  refine V_iconst (pc := 15) (v := 0) dL_sources_15 (by decide) ?_
  exact VE_iret (pc := 16) dL_sources_16 rfl rfl rfl
theorem L_sources_NSE {x1 : Int32} (kC : ∀ h0 : xH, VM G mX11_sources 80 1 6 (.ref (b + 0) :: [.int x1]) (xT NSE (wH G b tbC S h0)) (wH G b tbC S h0)) (hb : gB G ≤ b) (hd : 81 ≤ d) : VM G mL_sources d 1 6 [.ref (b + 0), .int x1, .ref (b + 68 + 35)] (xF (some (.int 1)) (jH G b S T fo hS y)) (jH G b S T fo hS y) := by
  refine VM_start (ls := [some (.ref (b + 0)), some (.int x1), some (.ref (b + 68 + 35)), none]) rfl ?_
  refine V_aload_n (pc := 0) (i := 2) dL_sources_0 rfl rfl ?_
  refine V_iconst (pc := 1) (v := 0) dL_sources_1 (by decide) ?_
  refine V_aload_n (pc := 2) (i := 0) dL_sources_2 rfl rfl ?_
  refine V_iload_n (pc := 3) (i := 1) dL_sources_3 rfl rfl ?_
  refine J_Cth (pc := 4) (bc := 0) (bs := 0) dL_sources_4 cL_100 kC rfl (Nat.le_of_ble_eq_true rfl) rfl hd (Nat.le_of_ble_eq_true rfl) (fun y' => ?_)
  refine VX_catch [] ⟨0, 9, 12, 18⟩ [] rfl (fun z hz => by cases hz) (by decide) (by decide) w_lN (by decide +kernel) (fun q => ?_)
  refine V_astore_n (pc := 12) (i := 3) dL_sources_12 rfl (by decide) rfl ?_
  refine V_iconst (pc := 13) (v := 1) dL_sources_13 (by decide) ?_
  exact VF_iret (pc := 14) dL_sources_14 rfl rfl rfl
theorem L_times_ok {x1 x2 : Int32} {v : Int32} (kC : ∀ h0 : xH, VM G mX11_times 80 0 0 (.ref (b + 0) :: [.int x1, .int x2]) (xE (some (.int v)) (wH G b tbC S' h0)) (wH G b tbC S h0)) (hb : gB G ≤ b) (hd : 81 ≤ d) : VM G mL_times d 0 0 [.ref (b + 0), .int x1, .int x2, .ref (b + 68 + 35)] (xE (some (.int 0)) (jH G b S' T (vp_updL fo 0 v.toInt64) hS y)) (jH G b S T fo hS y) := by
  refine VM_start (ls := [some (.ref (b + 0)), some (.int x1), some (.int x2), some (.ref (b + 68 + 35)), none]) rfl ?_
  refine V_aload_n (pc := 0) (i := 3) dL_times_0 rfl rfl ?_
  refine V_iconst (pc := 1) (v := 0) dL_times_1 (by decide) ?_
  refine V_aload_n (pc := 2) (i := 0) dL_times_2 rfl rfl ?_
  refine V_iload_n (pc := 3) (i := 1) dL_times_3 rfl rfl ?_
  refine V_iload_n (pc := 4) (i := 2) dL_times_4 rfl rfl ?_
  refine J_C (pc := 5) dL_times_5 cL_103 kC rfl (Nat.le_of_ble_eq_true rfl) rfl hd (Nat.le_of_ble_eq_true rfl) ?_
  refine V_i2l (pc := 8) dL_times_8 rfl ?_
  refine J_last (pc := 9) dL_times_9 hb ?_
  refine V_goto (pc := 10) 21 dL_times_10 rfl ?_
  refine V_iconst (pc := 21) (v := 0) dL_times_21 (by decide) ?_
  exact VE_iret (pc := 22) dL_times_22 rfl rfl rfl
theorem L_times_NSE {x1 x2 : Int32} (kC : ∀ h0 : xH, VM G mX11_times 80 1 6 (.ref (b + 0) :: [.int x1, .int x2]) (xT NSE (wH G b tbC S h0)) (wH G b tbC S h0)) (hb : gB G ≤ b) (hd : 81 ≤ d) : VM G mL_times d 1 6 [.ref (b + 0), .int x1, .int x2, .ref (b + 68 + 35)] (xF (some (.int 1)) (jH G b S T fo hS y)) (jH G b S T fo hS y) := by
  refine VM_start (ls := [some (.ref (b + 0)), some (.int x1), some (.int x2), some (.ref (b + 68 + 35)), none]) rfl ?_
  refine V_aload_n (pc := 0) (i := 3) dL_times_0 rfl rfl ?_
  refine V_iconst (pc := 1) (v := 0) dL_times_1 (by decide) ?_
  refine V_aload_n (pc := 2) (i := 0) dL_times_2 rfl rfl ?_
  refine V_iload_n (pc := 3) (i := 1) dL_times_3 rfl rfl ?_
  refine V_iload_n (pc := 4) (i := 2) dL_times_4 rfl rfl ?_
  refine J_Cth (pc := 5) (bc := 0) (bs := 0) dL_times_5 cL_103 kC rfl (Nat.le_of_ble_eq_true rfl) rfl hd (Nat.le_of_ble_eq_true rfl) (fun y' => ?_)
  refine VX_catch [] ⟨0, 10, 13, 18⟩ [⟨0, 10, 17, 13⟩] rfl (fun z hz => by cases hz) (by decide) (by decide) w_lN (by decide +kernel) (fun q => ?_)
  refine V_astore (pc := 13) dL_times_13 (by decide) rfl ?_
  refine V_iconst (pc := 15) (v := 1) dL_times_15 (by decide) ?_
  exact VF_iret (pc := 16) dL_times_16 rfl rfl rfl
theorem L_times_IAE {x1 x2 : Int32} (kC : ∀ h0 : xH, VM G mX11_times 80 1 6 (.ref (b + 0) :: [.int x1, .int x2]) (xT IAE (wH G b tbC S h0)) (wH G b tbC S h0)) (hb : gB G ≤ b) (hd : 81 ≤ d) : VM G mL_times d 1 6 [.ref (b + 0), .int x1, .int x2, .ref (b + 68 + 35)] (xF (some (.int 2)) (jH G b S T fo hS y)) (jH G b S T fo hS y) := by
  refine VM_start (ls := [some (.ref (b + 0)), some (.int x1), some (.int x2), some (.ref (b + 68 + 35)), none]) rfl ?_
  refine V_aload_n (pc := 0) (i := 3) dL_times_0 rfl rfl ?_
  refine V_iconst (pc := 1) (v := 0) dL_times_1 (by decide) ?_
  refine V_aload_n (pc := 2) (i := 0) dL_times_2 rfl rfl ?_
  refine V_iload_n (pc := 3) (i := 1) dL_times_3 rfl rfl ?_
  refine V_iload_n (pc := 4) (i := 2) dL_times_4 rfl rfl ?_
  refine J_Cth (pc := 5) (bc := 0) (bs := 0) dL_times_5 cL_103 kC rfl (Nat.le_of_ble_eq_true rfl) rfl hd (Nat.le_of_ble_eq_true rfl) (fun y' => ?_)
  refine VX_catch [⟨0, 10, 13, 18⟩] ⟨0, 10, 17, 13⟩ [] rfl (fun z hz => by cases (List.mem_singleton.mp hz); exact ⟨by decide, w_lN, rfl⟩) (by decide) (by decide) w_lI (by decide +kernel) (fun q => ?_)
  refine V_astore (pc := 17) dL_times_17 (by decide) rfl ?_
  refine V_iconst (pc := 19) (v := 2) dL_times_19 (by decide) ?_
  exact VF_iret (pc := 20) dL_times_20 rfl rfl rfl
theorem L_fullest_ok {x1 x2 : Int32} {v : Int32} (kC : ∀ h0 : xH, VM G mX11_fullest 80 0 0 (.ref (b + 0) :: [.int x1, .int x2]) (xE (some (.int v)) (wH G b tbC S' h0)) (wH G b tbC S h0)) (hb : gB G ≤ b) (hd : 81 ≤ d) : VM G mL_fullest d 0 0 [.ref (b + 0), .int x1, .int x2, .ref (b + 68 + 35)] (xE (some (.int 0)) (jH G b S' T (vp_updL fo 0 v.toInt64) hS y)) (jH G b S T fo hS y) := by
  refine VM_start (ls := [some (.ref (b + 0)), some (.int x1), some (.int x2), some (.ref (b + 68 + 35)), none]) rfl ?_
  refine V_aload_n (pc := 0) (i := 3) dL_fullest_0 rfl rfl ?_
  refine V_iconst (pc := 1) (v := 0) dL_fullest_1 (by decide) ?_
  refine V_aload_n (pc := 2) (i := 0) dL_fullest_2 rfl rfl ?_
  refine V_iload_n (pc := 3) (i := 1) dL_fullest_3 rfl rfl ?_
  refine V_iload_n (pc := 4) (i := 2) dL_fullest_4 rfl rfl ?_
  refine J_C (pc := 5) dL_fullest_5 cL_106 kC rfl (Nat.le_of_ble_eq_true rfl) rfl hd (Nat.le_of_ble_eq_true rfl) ?_
  refine V_i2l (pc := 8) dL_fullest_8 rfl ?_
  refine J_last (pc := 9) dL_fullest_9 hb ?_
  refine V_goto (pc := 10) 21 dL_fullest_10 rfl ?_
  refine V_iconst (pc := 21) (v := 0) dL_fullest_21 (by decide) ?_
  exact VE_iret (pc := 22) dL_fullest_22 rfl rfl rfl
theorem L_fullest_NSE {x1 x2 : Int32} (kC : ∀ h0 : xH, VM G mX11_fullest 80 1 6 (.ref (b + 0) :: [.int x1, .int x2]) (xT NSE (wH G b tbC S h0)) (wH G b tbC S h0)) (hb : gB G ≤ b) (hd : 81 ≤ d) : VM G mL_fullest d 1 6 [.ref (b + 0), .int x1, .int x2, .ref (b + 68 + 35)] (xF (some (.int 1)) (jH G b S T fo hS y)) (jH G b S T fo hS y) := by
  refine VM_start (ls := [some (.ref (b + 0)), some (.int x1), some (.int x2), some (.ref (b + 68 + 35)), none]) rfl ?_
  refine V_aload_n (pc := 0) (i := 3) dL_fullest_0 rfl rfl ?_
  refine V_iconst (pc := 1) (v := 0) dL_fullest_1 (by decide) ?_
  refine V_aload_n (pc := 2) (i := 0) dL_fullest_2 rfl rfl ?_
  refine V_iload_n (pc := 3) (i := 1) dL_fullest_3 rfl rfl ?_
  refine V_iload_n (pc := 4) (i := 2) dL_fullest_4 rfl rfl ?_
  refine J_Cth (pc := 5) (bc := 0) (bs := 0) dL_fullest_5 cL_106 kC rfl (Nat.le_of_ble_eq_true rfl) rfl hd (Nat.le_of_ble_eq_true rfl) (fun y' => ?_)
  refine VX_catch [] ⟨0, 10, 13, 18⟩ [⟨0, 10, 17, 13⟩] rfl (fun z hz => by cases hz) (by decide) (by decide) w_lN (by decide +kernel) (fun q => ?_)
  refine V_astore (pc := 13) dL_fullest_13 (by decide) rfl ?_
  refine V_iconst (pc := 15) (v := 1) dL_fullest_15 (by decide) ?_
  exact VF_iret (pc := 16) dL_fullest_16 rfl rfl rfl
theorem L_fullest_IAE {x1 x2 : Int32} (kC : ∀ h0 : xH, VM G mX11_fullest 80 1 6 (.ref (b + 0) :: [.int x1, .int x2]) (xT IAE (wH G b tbC S h0)) (wH G b tbC S h0)) (hb : gB G ≤ b) (hd : 81 ≤ d) : VM G mL_fullest d 1 6 [.ref (b + 0), .int x1, .int x2, .ref (b + 68 + 35)] (xF (some (.int 2)) (jH G b S T fo hS y)) (jH G b S T fo hS y) := by
  refine VM_start (ls := [some (.ref (b + 0)), some (.int x1), some (.int x2), some (.ref (b + 68 + 35)), none]) rfl ?_
  refine V_aload_n (pc := 0) (i := 3) dL_fullest_0 rfl rfl ?_
  refine V_iconst (pc := 1) (v := 0) dL_fullest_1 (by decide) ?_
  refine V_aload_n (pc := 2) (i := 0) dL_fullest_2 rfl rfl ?_
  refine V_iload_n (pc := 3) (i := 1) dL_fullest_3 rfl rfl ?_
  refine V_iload_n (pc := 4) (i := 2) dL_fullest_4 rfl rfl ?_
  refine J_Cth (pc := 5) (bc := 0) (bs := 0) dL_fullest_5 cL_106 kC rfl (Nat.le_of_ble_eq_true rfl) rfl hd (Nat.le_of_ble_eq_true rfl) (fun y' => ?_)
  refine VX_catch [⟨0, 10, 13, 18⟩] ⟨0, 10, 17, 13⟩ [] rfl (fun z hz => by cases (List.mem_singleton.mp hz); exact ⟨by decide, w_lN, rfl⟩) (by decide) (by decide) w_lI (by decide +kernel) (fun q => ?_)
  refine V_astore (pc := 17) dL_fullest_17 (by decide) rfl ?_
  refine V_iconst (pc := 19) (v := 2) dL_fullest_19 (by decide) ?_
  exact VF_iret (pc := 20) dL_fullest_20 rfl rfl rfl
theorem L_see_ok {x1 x2 x3 : Int32} {v : Int32} (kC : ∀ h0 : xH, VM G mX11_see 80 0 0 (.ref (b + 0) :: [.int x1, .int x2, .int x3]) (xE (some (.int v)) (wH G b tbC S' h0)) (wH G b tbC S h0)) (hb : gB G ≤ b) (hd : 81 ≤ d) : VM G mL_see d 0 0 [.ref (b + 0), .int x1, .int x2, .int x3, .ref (b + 68 + 35)] (xE (some (.int 0)) (jH G b S' T (vp_updL fo 0 v.toInt64) hS y)) (jH G b S T fo hS y) := by
  refine VM_start (ls := [some (.ref (b + 0)), some (.int x1), some (.int x2), some (.int x3), some (.ref (b + 68 + 35)), none]) rfl ?_
  refine V_aload (pc := 0) dL_see_0 rfl ?_
  refine V_iconst (pc := 2) (v := 0) dL_see_2 (by decide) ?_
  refine V_aload_n (pc := 3) (i := 0) dL_see_3 rfl rfl ?_
  refine V_iload_n (pc := 4) (i := 1) dL_see_4 rfl rfl ?_
  refine V_iload_n (pc := 5) (i := 2) dL_see_5 rfl rfl ?_
  refine V_iload_n (pc := 6) (i := 3) dL_see_6 rfl rfl ?_
  refine J_C (pc := 7) dL_see_7 cL_109 kC rfl (Nat.le_of_ble_eq_true rfl) rfl hd (Nat.le_of_ble_eq_true rfl) ?_
  refine V_i2l (pc := 10) dL_see_10 rfl ?_
  refine J_last (pc := 11) dL_see_11 hb ?_
  refine V_goto (pc := 12) 19 dL_see_12 rfl ?_
  refine V_iconst (pc := 19) (v := 0) dL_see_19 (by decide) ?_
  exact VE_iret (pc := 20) dL_see_20 rfl rfl rfl
theorem L_see_NSE {x1 x2 x3 : Int32} (kC : ∀ h0 : xH, VM G mX11_see 80 1 6 (.ref (b + 0) :: [.int x1, .int x2, .int x3]) (xT NSE (wH G b tbC S h0)) (wH G b tbC S h0)) (hb : gB G ≤ b) (hd : 81 ≤ d) : VM G mL_see d 1 6 [.ref (b + 0), .int x1, .int x2, .int x3, .ref (b + 68 + 35)] (xF (some (.int 1)) (jH G b S T fo hS y)) (jH G b S T fo hS y) := by
  refine VM_start (ls := [some (.ref (b + 0)), some (.int x1), some (.int x2), some (.int x3), some (.ref (b + 68 + 35)), none]) rfl ?_
  refine V_aload (pc := 0) dL_see_0 rfl ?_
  refine V_iconst (pc := 2) (v := 0) dL_see_2 (by decide) ?_
  refine V_aload_n (pc := 3) (i := 0) dL_see_3 rfl rfl ?_
  refine V_iload_n (pc := 4) (i := 1) dL_see_4 rfl rfl ?_
  refine V_iload_n (pc := 5) (i := 2) dL_see_5 rfl rfl ?_
  refine V_iload_n (pc := 6) (i := 3) dL_see_6 rfl rfl ?_
  refine J_Cth (pc := 7) (bc := 0) (bs := 0) dL_see_7 cL_109 kC rfl (Nat.le_of_ble_eq_true rfl) rfl hd (Nat.le_of_ble_eq_true rfl) (fun y' => ?_)
  refine VX_catch [] ⟨0, 12, 15, 18⟩ [] rfl (fun z hz => by cases hz) (by decide) (by decide) w_lN (by decide +kernel) (fun q => ?_)
  refine V_astore (pc := 15) dL_see_15 (by decide) rfl ?_
  refine V_iconst (pc := 17) (v := 1) dL_see_17 (by decide) ?_
  exact VF_iret (pc := 18) dL_see_18 rfl rfl rfl
theorem L_tells_ok {x1 : Int32} {v : Int32} (kC : ∀ h0 : xH, VM G mX11_tells 80 0 0 (.ref (b + 0) :: [.int x1]) (xE (some (.int v)) (wH G b tbC S' h0)) (wH G b tbC S h0)) (hb : gB G ≤ b) (hd : 81 ≤ d) : VM G mL_tells d 0 0 [.ref (b + 0), .int x1, .ref (b + 68 + 35)] (xE (some (.int 0)) (jH G b S' T (vp_updL fo 0 v.toInt64) hS y)) (jH G b S T fo hS y) := by
  refine VM_start (ls := [some (.ref (b + 0)), some (.int x1), some (.ref (b + 68 + 35)), none]) rfl ?_
  refine V_aload_n (pc := 0) (i := 2) dL_tells_0 rfl rfl ?_
  refine V_iconst (pc := 1) (v := 0) dL_tells_1 (by decide) ?_
  refine V_aload_n (pc := 2) (i := 0) dL_tells_2 rfl rfl ?_
  refine V_iload_n (pc := 3) (i := 1) dL_tells_3 rfl rfl ?_
  refine J_C (pc := 4) dL_tells_4 cL_112 kC rfl (Nat.le_of_ble_eq_true rfl) rfl hd (Nat.le_of_ble_eq_true rfl) ?_
  refine V_i2l (pc := 7) dL_tells_7 rfl ?_
  refine J_last (pc := 8) dL_tells_8 hb ?_
  refine V_goto (pc := 9) 15 dL_tells_9 rfl ?_
  refine V_iconst (pc := 15) (v := 0) dL_tells_15 (by decide) ?_
  exact VE_iret (pc := 16) dL_tells_16 rfl rfl rfl
theorem L_tells_NSE {x1 : Int32} (kC : ∀ h0 : xH, VM G mX11_tells 80 1 6 (.ref (b + 0) :: [.int x1]) (xT NSE (wH G b tbC S h0)) (wH G b tbC S h0)) (hb : gB G ≤ b) (hd : 81 ≤ d) : VM G mL_tells d 1 6 [.ref (b + 0), .int x1, .ref (b + 68 + 35)] (xF (some (.int 1)) (jH G b S T fo hS y)) (jH G b S T fo hS y) := by
  refine VM_start (ls := [some (.ref (b + 0)), some (.int x1), some (.ref (b + 68 + 35)), none]) rfl ?_
  refine V_aload_n (pc := 0) (i := 2) dL_tells_0 rfl rfl ?_
  refine V_iconst (pc := 1) (v := 0) dL_tells_1 (by decide) ?_
  refine V_aload_n (pc := 2) (i := 0) dL_tells_2 rfl rfl ?_
  refine V_iload_n (pc := 3) (i := 1) dL_tells_3 rfl rfl ?_
  refine J_Cth (pc := 4) (bc := 0) (bs := 0) dL_tells_4 cL_112 kC rfl (Nat.le_of_ble_eq_true rfl) rfl hd (Nat.le_of_ble_eq_true rfl) (fun y' => ?_)
  refine VX_catch [] ⟨0, 9, 12, 18⟩ [] rfl (fun z hz => by cases hz) (by decide) (by decide) w_lN (by decide +kernel) (fun q => ?_)
  refine V_astore_n (pc := 12) (i := 3) dL_tells_12 rfl (by decide) rfl ?_
  refine V_iconst (pc := 13) (v := 1) dL_tells_13 (by decide) ?_
  exact VF_iret (pc := 14) dL_tells_14 rfl rfl rfl
theorem L_look_ok {x1 x2 : Int32} {v : Int32} (kC : ∀ h0 : xH, VM G mX11_look 80 0 0 (.ref (b + 0) :: [.int x1, .int x2]) (xE (some (.int v)) (wH G b tbC S' h0)) (wH G b tbC S h0)) (hb : gB G ≤ b) (hd : 81 ≤ d) : VM G mL_look d 0 0 [.ref (b + 0), .int x1, .int x2, .ref (b + 68 + 35)] (xE (some (.int 0)) (jH G b S' T (vp_updL fo 0 v.toInt64) hS y)) (jH G b S T fo hS y) := by
  refine VM_start (ls := [some (.ref (b + 0)), some (.int x1), some (.int x2), some (.ref (b + 68 + 35)), none]) rfl ?_
  refine V_aload_n (pc := 0) (i := 3) dL_look_0 rfl rfl ?_
  refine V_iconst (pc := 1) (v := 0) dL_look_1 (by decide) ?_
  refine V_aload_n (pc := 2) (i := 0) dL_look_2 rfl rfl ?_
  refine V_iload_n (pc := 3) (i := 1) dL_look_3 rfl rfl ?_
  refine V_iload_n (pc := 4) (i := 2) dL_look_4 rfl rfl ?_
  refine J_C (pc := 5) dL_look_5 cL_115 kC rfl (Nat.le_of_ble_eq_true rfl) rfl hd (Nat.le_of_ble_eq_true rfl) ?_
  refine V_i2l (pc := 8) dL_look_8 rfl ?_
  refine J_last (pc := 9) dL_look_9 hb ?_
  refine V_goto (pc := 10) 17 dL_look_10 rfl ?_
  refine V_iconst (pc := 17) (v := 0) dL_look_17 (by decide) ?_
  exact VE_iret (pc := 18) dL_look_18 rfl rfl rfl
theorem L_look_NSE {x1 x2 : Int32} (kC : ∀ h0 : xH, VM G mX11_look 80 1 6 (.ref (b + 0) :: [.int x1, .int x2]) (xT NSE (wH G b tbC S h0)) (wH G b tbC S h0)) (hb : gB G ≤ b) (hd : 81 ≤ d) : VM G mL_look d 1 6 [.ref (b + 0), .int x1, .int x2, .ref (b + 68 + 35)] (xF (some (.int 1)) (jH G b S T fo hS y)) (jH G b S T fo hS y) := by
  refine VM_start (ls := [some (.ref (b + 0)), some (.int x1), some (.int x2), some (.ref (b + 68 + 35)), none]) rfl ?_
  refine V_aload_n (pc := 0) (i := 3) dL_look_0 rfl rfl ?_
  refine V_iconst (pc := 1) (v := 0) dL_look_1 (by decide) ?_
  refine V_aload_n (pc := 2) (i := 0) dL_look_2 rfl rfl ?_
  refine V_iload_n (pc := 3) (i := 1) dL_look_3 rfl rfl ?_
  refine V_iload_n (pc := 4) (i := 2) dL_look_4 rfl rfl ?_
  refine J_Cth (pc := 5) (bc := 0) (bs := 0) dL_look_5 cL_115 kC rfl (Nat.le_of_ble_eq_true rfl) rfl hd (Nat.le_of_ble_eq_true rfl) (fun y' => ?_)
  refine VX_catch [] ⟨0, 10, 13, 18⟩ [] rfl (fun z hz => by cases hz) (by decide) (by decide) w_lN (by decide +kernel) (fun q => ?_)
  refine V_astore (pc := 13) dL_look_13 (by decide) rfl ?_
  refine V_iconst (pc := 15) (v := 1) dL_look_15 (by decide) ?_
  exact VF_iret (pc := 16) dL_look_16 rfl rfl rfl
theorem L_game_ok {x1 x2 x3 : Int32} {v : Int32} (kC : ∀ h0 : xH, VM G mX11_game 80 0 0 (.ref (b + 0) :: [.int x1, .int x2, .int x3]) (xE (some (.int v)) (wH G b tbC S' h0)) (wH G b tbC S h0)) (hb : gB G ≤ b) (hd : 81 ≤ d) : VM G mL_game d 0 0 [.ref (b + 0), .int x1, .int x2, .int x3, .ref (b + 68 + 35)] (xE (some (.int 0)) (jH G b S' T (vp_updL fo 0 v.toInt64) hS y)) (jH G b S T fo hS y) := by
  refine VM_start (ls := [some (.ref (b + 0)), some (.int x1), some (.int x2), some (.int x3), some (.ref (b + 68 + 35)), none]) rfl ?_
  refine V_aload (pc := 0) dL_game_0 rfl ?_
  refine V_iconst (pc := 2) (v := 0) dL_game_2 (by decide) ?_
  refine V_aload_n (pc := 3) (i := 0) dL_game_3 rfl rfl ?_
  refine V_iload_n (pc := 4) (i := 1) dL_game_4 rfl rfl ?_
  refine V_iload_n (pc := 5) (i := 2) dL_game_5 rfl rfl ?_
  refine V_iload_n (pc := 6) (i := 3) dL_game_6 rfl rfl ?_
  refine J_C (pc := 7) dL_game_7 cL_118 kC rfl (Nat.le_of_ble_eq_true rfl) rfl hd (Nat.le_of_ble_eq_true rfl) ?_
  refine V_i2l (pc := 10) dL_game_10 rfl ?_
  refine J_last (pc := 11) dL_game_11 hb ?_
  refine V_goto (pc := 12) 23 dL_game_12 rfl ?_
  refine V_iconst (pc := 23) (v := 0) dL_game_23 (by decide) ?_
  exact VE_iret (pc := 24) dL_game_24 rfl rfl rfl
theorem L_game_NSE {x1 x2 x3 : Int32} (kC : ∀ h0 : xH, VM G mX11_game 80 1 6 (.ref (b + 0) :: [.int x1, .int x2, .int x3]) (xT NSE (wH G b tbC S h0)) (wH G b tbC S h0)) (hb : gB G ≤ b) (hd : 81 ≤ d) : VM G mL_game d 1 6 [.ref (b + 0), .int x1, .int x2, .int x3, .ref (b + 68 + 35)] (xF (some (.int 1)) (jH G b S T fo hS y)) (jH G b S T fo hS y) := by
  refine VM_start (ls := [some (.ref (b + 0)), some (.int x1), some (.int x2), some (.int x3), some (.ref (b + 68 + 35)), none]) rfl ?_
  refine V_aload (pc := 0) dL_game_0 rfl ?_
  refine V_iconst (pc := 2) (v := 0) dL_game_2 (by decide) ?_
  refine V_aload_n (pc := 3) (i := 0) dL_game_3 rfl rfl ?_
  refine V_iload_n (pc := 4) (i := 1) dL_game_4 rfl rfl ?_
  refine V_iload_n (pc := 5) (i := 2) dL_game_5 rfl rfl ?_
  refine V_iload_n (pc := 6) (i := 3) dL_game_6 rfl rfl ?_
  refine J_Cth (pc := 7) (bc := 0) (bs := 0) dL_game_7 cL_118 kC rfl (Nat.le_of_ble_eq_true rfl) rfl hd (Nat.le_of_ble_eq_true rfl) (fun y' => ?_)
  refine VX_catch [] ⟨0, 12, 15, 18⟩ [⟨0, 12, 19, 13⟩] rfl (fun z hz => by cases hz) (by decide) (by decide) w_lN (by decide +kernel) (fun q => ?_)
  refine V_astore (pc := 15) dL_game_15 (by decide) rfl ?_
  refine V_iconst (pc := 17) (v := 1) dL_game_17 (by decide) ?_
  exact VF_iret (pc := 18) dL_game_18 rfl rfl rfl
theorem L_game_IAE {x1 x2 x3 : Int32} (kC : ∀ h0 : xH, VM G mX11_game 80 1 6 (.ref (b + 0) :: [.int x1, .int x2, .int x3]) (xT IAE (wH G b tbC S h0)) (wH G b tbC S h0)) (hb : gB G ≤ b) (hd : 81 ≤ d) : VM G mL_game d 1 6 [.ref (b + 0), .int x1, .int x2, .int x3, .ref (b + 68 + 35)] (xF (some (.int 2)) (jH G b S T fo hS y)) (jH G b S T fo hS y) := by
  refine VM_start (ls := [some (.ref (b + 0)), some (.int x1), some (.int x2), some (.int x3), some (.ref (b + 68 + 35)), none]) rfl ?_
  refine V_aload (pc := 0) dL_game_0 rfl ?_
  refine V_iconst (pc := 2) (v := 0) dL_game_2 (by decide) ?_
  refine V_aload_n (pc := 3) (i := 0) dL_game_3 rfl rfl ?_
  refine V_iload_n (pc := 4) (i := 1) dL_game_4 rfl rfl ?_
  refine V_iload_n (pc := 5) (i := 2) dL_game_5 rfl rfl ?_
  refine V_iload_n (pc := 6) (i := 3) dL_game_6 rfl rfl ?_
  refine J_Cth (pc := 7) (bc := 0) (bs := 0) dL_game_7 cL_118 kC rfl (Nat.le_of_ble_eq_true rfl) rfl hd (Nat.le_of_ble_eq_true rfl) (fun y' => ?_)
  refine VX_catch [⟨0, 12, 15, 18⟩] ⟨0, 12, 19, 13⟩ [] rfl (fun z hz => by cases (List.mem_singleton.mp hz); exact ⟨by decide, w_lN, rfl⟩) (by decide) (by decide) w_lI (by decide +kernel) (fun q => ?_)
  refine V_astore (pc := 19) dL_game_19 (by decide) rfl ?_
  refine V_iconst (pc := 21) (v := 2) dL_game_21 (by decide) ?_
  exact VF_iret (pc := 22) dL_game_22 rfl rfl rfl
theorem L_years_ok {x1 x2 x3 : Int32} {v : Int32} (kC : ∀ h0 : xH, VM G mX11_years 80 0 0 (.ref (b + 0) :: [.int x1, .int x2, .int x3]) (xE (some (.int v)) (wH G b tbC S' h0)) (wH G b tbC S h0)) (hb : gB G ≤ b) (hd : 81 ≤ d) : VM G mL_years d 0 0 [.ref (b + 0), .int x1, .int x2, .int x3, .ref (b + 68 + 35)] (xE (some (.int 0)) (jH G b S' T (vp_updL fo 0 v.toInt64) hS y)) (jH G b S T fo hS y) := by
  refine VM_start (ls := [some (.ref (b + 0)), some (.int x1), some (.int x2), some (.int x3), some (.ref (b + 68 + 35)), none]) rfl ?_
  refine V_aload (pc := 0) dL_years_0 rfl ?_
  refine V_iconst (pc := 2) (v := 0) dL_years_2 (by decide) ?_
  refine V_aload_n (pc := 3) (i := 0) dL_years_3 rfl rfl ?_
  refine V_iload_n (pc := 4) (i := 1) dL_years_4 rfl rfl ?_
  refine V_iload_n (pc := 5) (i := 2) dL_years_5 rfl rfl ?_
  refine V_iload_n (pc := 6) (i := 3) dL_years_6 rfl rfl ?_
  refine J_C (pc := 7) dL_years_7 cL_121 kC rfl (Nat.le_of_ble_eq_true rfl) rfl hd (Nat.le_of_ble_eq_true rfl) ?_
  refine V_i2l (pc := 10) dL_years_10 rfl ?_
  refine J_last (pc := 11) dL_years_11 hb ?_
  refine V_goto (pc := 12) 23 dL_years_12 rfl ?_
  refine V_iconst (pc := 23) (v := 0) dL_years_23 (by decide) ?_
  exact VE_iret (pc := 24) dL_years_24 rfl rfl rfl
theorem L_years_NSE {x1 x2 x3 : Int32} (kC : ∀ h0 : xH, VM G mX11_years 80 1 6 (.ref (b + 0) :: [.int x1, .int x2, .int x3]) (xT NSE (wH G b tbC S h0)) (wH G b tbC S h0)) (hb : gB G ≤ b) (hd : 81 ≤ d) : VM G mL_years d 1 6 [.ref (b + 0), .int x1, .int x2, .int x3, .ref (b + 68 + 35)] (xF (some (.int 1)) (jH G b S T fo hS y)) (jH G b S T fo hS y) := by
  refine VM_start (ls := [some (.ref (b + 0)), some (.int x1), some (.int x2), some (.int x3), some (.ref (b + 68 + 35)), none]) rfl ?_
  refine V_aload (pc := 0) dL_years_0 rfl ?_
  refine V_iconst (pc := 2) (v := 0) dL_years_2 (by decide) ?_
  refine V_aload_n (pc := 3) (i := 0) dL_years_3 rfl rfl ?_
  refine V_iload_n (pc := 4) (i := 1) dL_years_4 rfl rfl ?_
  refine V_iload_n (pc := 5) (i := 2) dL_years_5 rfl rfl ?_
  refine V_iload_n (pc := 6) (i := 3) dL_years_6 rfl rfl ?_
  refine J_Cth (pc := 7) (bc := 0) (bs := 0) dL_years_7 cL_121 kC rfl (Nat.le_of_ble_eq_true rfl) rfl hd (Nat.le_of_ble_eq_true rfl) (fun y' => ?_)
  refine VX_catch [] ⟨0, 12, 15, 18⟩ [⟨0, 12, 19, 13⟩] rfl (fun z hz => by cases hz) (by decide) (by decide) w_lN (by decide +kernel) (fun q => ?_)
  refine V_astore (pc := 15) dL_years_15 (by decide) rfl ?_
  refine V_iconst (pc := 17) (v := 1) dL_years_17 (by decide) ?_
  exact VF_iret (pc := 18) dL_years_18 rfl rfl rfl
theorem L_years_IAE {x1 x2 x3 : Int32} (kC : ∀ h0 : xH, VM G mX11_years 80 1 6 (.ref (b + 0) :: [.int x1, .int x2, .int x3]) (xT IAE (wH G b tbC S h0)) (wH G b tbC S h0)) (hb : gB G ≤ b) (hd : 81 ≤ d) : VM G mL_years d 1 6 [.ref (b + 0), .int x1, .int x2, .int x3, .ref (b + 68 + 35)] (xF (some (.int 2)) (jH G b S T fo hS y)) (jH G b S T fo hS y) := by
  refine VM_start (ls := [some (.ref (b + 0)), some (.int x1), some (.int x2), some (.int x3), some (.ref (b + 68 + 35)), none]) rfl ?_
  refine V_aload (pc := 0) dL_years_0 rfl ?_
  refine V_iconst (pc := 2) (v := 0) dL_years_2 (by decide) ?_
  refine V_aload_n (pc := 3) (i := 0) dL_years_3 rfl rfl ?_
  refine V_iload_n (pc := 4) (i := 1) dL_years_4 rfl rfl ?_
  refine V_iload_n (pc := 5) (i := 2) dL_years_5 rfl rfl ?_
  refine V_iload_n (pc := 6) (i := 3) dL_years_6 rfl rfl ?_
  refine J_Cth (pc := 7) (bc := 0) (bs := 0) dL_years_7 cL_121 kC rfl (Nat.le_of_ble_eq_true rfl) rfl hd (Nat.le_of_ble_eq_true rfl) (fun y' => ?_)
  refine VX_catch [⟨0, 12, 15, 18⟩] ⟨0, 12, 19, 13⟩ [] rfl (fun z hz => by cases (List.mem_singleton.mp hz); exact ⟨by decide, w_lN, rfl⟩) (by decide) (by decide) w_lI (by decide +kernel) (fun q => ?_)
  refine V_astore (pc := 19) dL_years_19 (by decide) rfl ?_
  refine V_iconst (pc := 21) (v := 2) dL_years_21 (by decide) ?_
  exact VF_iret (pc := 22) dL_years_22 rfl rfl rfl
end J1
