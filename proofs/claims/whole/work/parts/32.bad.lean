/-! ===== the face: arguments that are refused ===== -/
section Bad
variable {G : xG} {d : Nat} {b : Nat} {S : Nat → Nat → Int32} {h0 : xH}
theorem X11_worth_bad1  {x1 : Int32} (hx : x1 < 0 ∨ 10 ≤ x1) (hd : 7 ≤ d) : VM G mX11_worth d 1 6 [.ref (b + 0), .int x1] (xT NSE (wH G b tbC S h0)) (wH G b tbC S h0) := by
  refine VM_start (ls := [some (.ref (b + 0)), some (.int x1)]) rfl ?_
  -- %m X11_worth
  refine V_iload_n (pc := 0) (i := 1) dX11_worth_0 rfl rfl ?_
  refine V_S1t (pc := 1) dX11_worth_1 cX11_161 (X11_mustBeThing_bad (d := 6) hx (by omega)) (Nat.le_of_ble_eq_true rfl) (by omega) (Nat.le_of_ble_eq_true rfl) ?_
  exact fun h' e => VX_out rfl ⟨rfl, e⟩
theorem X11_conditional_bad1 {s : Nat} (hsh : shC (S 0 9) = s) {n : Nat} (hn : S (s + 2) 4 = nI n) (h12 : n ≤ 12) {x1 x2 : Int32} (hx : x1 < 0 ∨ nI n ≤ x1) (hd : 7 ≤ d) : VM G mX11_conditional d 1 6 [.ref (b + 0), .int x1, .int x2] (xT NSE (wH G b tbC S h0)) (wH G b tbC S h0) := by
  refine VM_start (ls := [some (.ref (b + 0)), some (.int x1), some (.int x2)]) rfl ?_
  -- %m X11_conditional
  refine V_aload_n (pc := 0) (i := 0) dX11_conditional_0 rfl rfl ?_
  refine V_iload_n (pc := 1) (i := 1) dX11_conditional_1 rfl rfl ?_
  refine V_V1t (pc := 2) dX11_conditional_2 cX11_167 (by first | assumption | rfl) (X11_mustBeIf_bad (d := 6) hsh hn hx (by omega)) (Nat.le_of_ble_eq_true rfl) (by omega) (Nat.le_of_ble_eq_true rfl) ?_
  exact fun h' e => VX_out rfl ⟨rfl, e⟩
theorem X11_person_bad1 {s : Nat} (hsh : shC (S 0 9) = s) {pp : Nat} (hp : S s 7 = nI pp) (h8 : pp ≤ 8) {x1 x2 : Int32} (hx : x1 < 0 ∨ nI pp ≤ x1) (hd : 7 ≤ d) : VM G mX11_person d 1 6 [.ref (b + 0), .int x1, .int x2] (xT NSE (wH G b tbC S h0)) (wH G b tbC S h0) := by
  refine VM_start (ls := [some (.ref (b + 0)), some (.int x1), some (.int x2)]) rfl ?_
  -- %m X11_person
  refine V_aload_n (pc := 0) (i := 0) dX11_person_0 rfl rfl ?_
  refine V_iload_n (pc := 1) (i := 1) dX11_person_1 rfl rfl ?_
  refine V_V1t (pc := 2) dX11_person_2 cX11_188 (by first | assumption | rfl) (X11_mustBePerson_bad (d := 6) hsh hp hx (by omega)) (Nat.le_of_ble_eq_true rfl) (by omega) (Nat.le_of_ble_eq_true rfl) ?_
  exact fun h' e => VX_out rfl ⟨rfl, e⟩
theorem X11_has_bad1 {s : Nat} (hsh : shC (S 0 9) = s) {pp : Nat} (hp : S s 7 = nI pp) (h8 : pp ≤ 8) {x1 x2 x3 : Int32} (hx : x1 < 0 ∨ nI pp ≤ x1) (hd : 7 ≤ d) : VM G mX11_has d 1 6 [.ref (b + 0), .int x1, .int x2, .int x3] (xT NSE (wH G b tbC S h0)) (wH G b tbC S h0) := by
  refine VM_start (ls := [some (.ref (b + 0)), some (.int x1), some (.int x2), some (.int x3)]) rfl ?_
  -- %m X11_has
  refine V_aload_n (pc := 0) (i := 0) dX11_has_0 rfl rfl ?_
  refine V_iload_n (pc := 1) (i := 1) dX11_has_1 rfl rfl ?_
  refine V_V1t (pc := 2) dX11_has_2 cX11_188 (by first | assumption | rfl) (X11_mustBePerson_bad (d := 6) hsh hp hx (by omega)) (Nat.le_of_ble_eq_true rfl) (by omega) (Nat.le_of_ble_eq_true rfl) ?_
  exact fun h' e => VX_out rfl ⟨rfl, e⟩
theorem X11_has_bad2 {s : Nat} (hsh : shC (S 0 9) = s) {pp : Nat} (hp : S s 7 = nI pp) (h8 : pp ≤ 8) {q1 : Nat} {x2 x3 : Int32} (hq1 : q1 < pp) (hx : x2 < 0 ∨ 10 ≤ x2) (hd : 7 ≤ d) : VM G mX11_has d 1 6 [.ref (b + 0), .int (nI q1), .int x2, .int x3] (xT NSE (wH G b tbC S h0)) (wH G b tbC S h0) := by
  refine VM_start (ls := [some (.ref (b + 0)), some (.int (nI q1)), some (.int x2), some (.int x3)]) rfl ?_
  -- %m X11_has
  refine V_aload_n (pc := 0) (i := 0) dX11_has_0 rfl rfl ?_
  refine V_iload_n (pc := 1) (i := 1) dX11_has_1 rfl rfl ?_
  refine V_V1v (pc := 2) dX11_has_2 cX11_188 (by first | assumption | rfl) (X11_mustBePerson_ok (d := 0) hsh hp h8 hq1) (Nat.le_of_ble_eq_true rfl) (by omega) (Nat.le_of_ble_eq_true rfl) ?_
  refine V_iload_n (pc := 5) (i := 2) dX11_has_5 rfl rfl ?_
  refine V_S1t (pc := 6) dX11_has_6 cX11_161 (X11_mustBeThing_bad (d := 6) hx (by omega)) (Nat.le_of_ble_eq_true rfl) (by omega) (Nat.le_of_ble_eq_true rfl) ?_
  exact fun h' e => VX_out rfl ⟨rfl, e⟩
theorem X11_miss_bad1 {s : Nat} (hsh : shC (S 0 9) = s) {pp : Nat} (hp : S s 7 = nI pp) (h8 : pp ≤ 8) {x1 x2 : Int32} (hx : x1 < 0 ∨ nI pp ≤ x1) (hd : 7 ≤ d) : VM G mX11_miss d 1 6 [.ref (b + 0), .int x1, .int x2] (xT NSE (wH G b tbC S h0)) (wH G b tbC S h0) := by
  refine VM_start (ls := [some (.ref (b + 0)), some (.int x1), some (.int x2), none]) rfl ?_
  -- %m X11_miss
  refine V_aload_n (pc := 0) (i := 0) dX11_miss_0 rfl rfl ?_
  refine V_iload_n (pc := 1) (i := 1) dX11_miss_1 rfl rfl ?_
  refine V_V1t (pc := 2) dX11_miss_2 cX11_188 (by first | assumption | rfl) (X11_mustBePerson_bad (d := 6) hsh hp hx (by omega)) (Nat.le_of_ble_eq_true rfl) (by omega) (Nat.le_of_ble_eq_true rfl) ?_
  exact fun h' e => VX_out rfl ⟨rfl, e⟩
theorem X11_miss_bad2 {s : Nat} (hsh : shC (S 0 9) = s) {pp : Nat} (hp : S s 7 = nI pp) (h8 : pp ≤ 8) {q1 : Nat} {x2 : Int32} (hq1 : q1 < pp) (hx : x2 < 0 ∨ 10 ≤ x2) (hd : 7 ≤ d) : VM G mX11_miss d 1 6 [.ref (b + 0), .int (nI q1), .int x2] (xT NSE (wH G b tbC S h0)) (wH G b tbC S h0) := by
  refine VM_start (ls := [some (.ref (b + 0)), some (.int (nI q1)), some (.int x2), none]) rfl ?_
  -- %m X11_miss
  refine V_aload_n (pc := 0) (i := 0) dX11_miss_0 rfl rfl ?_
  refine V_iload_n (pc := 1) (i := 1) dX11_miss_1 rfl rfl ?_
  refine V_V1v (pc := 2) dX11_miss_2 cX11_188 (by first | assumption | rfl) (X11_mustBePerson_ok (d := 0) hsh hp h8 hq1) (Nat.le_of_ble_eq_true rfl) (by omega) (Nat.le_of_ble_eq_true rfl) ?_
  refine V_iload_n (pc := 5) (i := 2) dX11_miss_5 rfl rfl ?_
  refine V_S1t (pc := 6) dX11_miss_6 cX11_161 (X11_mustBeThing_bad (d := 6) hx (by omega)) (Nat.le_of_ble_eq_true rfl) (by omega) (Nat.le_of_ble_eq_true rfl) ?_
  exact fun h' e => VX_out rfl ⟨rfl, e⟩
theorem X11_deny_bad1 {s : Nat} (hsh : shC (S 0 9) = s) {n : Nat} (hn : S (s + 2) 4 = nI n) (h12 : n ≤ 12) {x1 x2 : Int32} (hx : x1 < 0 ∨ nI n ≤ x1) (hd : 7 ≤ d) : VM G mX11_deny d 1 6 [.ref (b + 0), .int x1, .int x2] (xT NSE (wH G b tbC S h0)) (wH G b tbC S h0) := by
  refine VM_start (ls := [some (.ref (b + 0)), some (.int x1), some (.int x2)]) rfl ?_
  -- %m X11_deny
  refine V_aload_n (pc := 0) (i := 0) dX11_deny_0 rfl rfl ?_
  refine V_iload_n (pc := 1) (i := 1) dX11_deny_1 rfl rfl ?_
  refine V_V1t (pc := 2) dX11_deny_2 cX11_167 (by first | assumption | rfl) (X11_mustBeIf_bad (d := 6) hsh hn hx (by omega)) (Nat.le_of_ble_eq_true rfl) (by omega) (Nat.le_of_ble_eq_true rfl) ?_
  exact fun h' e => VX_out rfl ⟨rfl, e⟩
theorem X11_crossing_bad1  {x1 : Int32} (hx : x1 < 1 ∨ 60 < x1) (hd : 7 ≤ d) : VM G mX11_crossing d 1 6 [.ref (b + 0), .int x1] (xT IAE (wH G b tbC S h0)) (wH G b tbC S h0) := by
  refine VM_start (ls := [some (.ref (b + 0)), some (.int x1), none]) rfl ?_
  -- %m X11_crossing
  refine V_iload_n (pc := 0) (i := 1) dX11_crossing_0 rfl rfl ?_
  refine V_iconst (pc := 1) (v := 1) dX11_crossing_1 (by decide) ?_
  refine V_bipush (pc := 2) (v := 60) dX11_crossing_2 (by decide) ?_
  refine V_S3t (pc := 4) dX11_crossing_4 cX11_94 (X11_mustBeWithin_bad (d := 6) hx (by omega)) (Nat.le_of_ble_eq_true rfl) (by omega) (Nat.le_of_ble_eq_true rfl) ?_
  exact fun h' e => VX_out rfl ⟨rfl, e⟩
theorem X11_then_bad1 {s : Nat} (hsh : shC (S 0 9) = s) {pp : Nat} (hp : S s 7 = nI pp) (h8 : pp ≤ 8) {x1 x2 x3 : Int32} (hx : x1 < 0 ∨ nI pp ≤ x1) (hd : 7 ≤ d) : VM G mX11_then d 1 6 [.ref (b + 0), .int x1, .int x2, .int x3] (xT NSE (wH G b tbC S h0)) (wH G b tbC S h0) := by
  refine VM_start (ls := [some (.ref (b + 0)), some (.int x1), some (.int x2), some (.int x3), none]) rfl ?_
  -- %m X11_then
  refine V_aload_n (pc := 0) (i := 0) dX11_then_0 rfl rfl ?_
  refine V_iload_n (pc := 1) (i := 1) dX11_then_1 rfl rfl ?_
  refine V_V1t (pc := 2) dX11_then_2 cX11_188 (by first | assumption | rfl) (X11_mustBePerson_bad (d := 6) hsh hp hx (by omega)) (Nat.le_of_ble_eq_true rfl) (by omega) (Nat.le_of_ble_eq_true rfl) ?_
  exact fun h' e => VX_out rfl ⟨rfl, e⟩
theorem X11_then_bad2 {s : Nat} (hsh : shC (S 0 9) = s) {pp : Nat} (hp : S s 7 = nI pp) (h8 : pp ≤ 8) {q1 : Nat} {x2 x3 : Int32} (hq1 : q1 < pp) (hx : x3 < 0 ∨ 1 < x3) (hd : 7 ≤ d) : VM G mX11_then d 1 6 [.ref (b + 0), .int (nI q1), .int x2, .int x3] (xT NSE (wH G b tbC S h0)) (wH G b tbC S h0) := by
  refine VM_start (ls := [some (.ref (b + 0)), some (.int (nI q1)), some (.int x2), some (.int x3), none]) rfl ?_
  -- %m X11_then
  refine V_aload_n (pc := 0) (i := 0) dX11_then_0 rfl rfl ?_
  refine V_iload_n (pc := 1) (i := 1) dX11_then_1 rfl rfl ?_
  refine V_V1v (pc := 2) dX11_then_2 cX11_188 (by first | assumption | rfl) (X11_mustBePerson_ok (d := 0) hsh hp h8 hq1) (Nat.le_of_ble_eq_true rfl) (by omega) (Nat.le_of_ble_eq_true rfl) ?_
  refine V_iload_n (pc := 5) (i := 3) dX11_then_5 rfl rfl ?_
  refine V_iconst (pc := 6) (v := 1) dX11_then_6 (by decide) ?_
  refine V_S2t (pc := 7) dX11_then_7 cX11_247 (X11_mustBeWhat_bad (d := 6) hx (by omega)) (Nat.le_of_ble_eq_true rfl) (by omega) (Nat.le_of_ble_eq_true rfl) ?_
  exact fun h' e => VX_out rfl ⟨rfl, e⟩
theorem X11_then_bad3 {s : Nat} (hsh : shC (S 0 9) = s) {pp : Nat} (hp : S s 7 = nI pp) (h8 : pp ≤ 8) {q1 q3 : Nat} {x2 : Int32} (hq1 : q1 < pp) (hq3 : q3 ≤ 1) (hx : x2 < 0 ∨ 60 < x2) (hd : 7 ≤ d) : VM G mX11_then d 1 6 [.ref (b + 0), .int (nI q1), .int x2, .int (nI q3)] (xT IAE (wH G b tbC S h0)) (wH G b tbC S h0) := by
  refine VM_start (ls := [some (.ref (b + 0)), some (.int (nI q1)), some (.int x2), some (.int (nI q3)), none]) rfl ?_
  -- %m X11_then
  refine V_aload_n (pc := 0) (i := 0) dX11_then_0 rfl rfl ?_
  refine V_iload_n (pc := 1) (i := 1) dX11_then_1 rfl rfl ?_
  refine V_V1v (pc := 2) dX11_then_2 cX11_188 (by first | assumption | rfl) (X11_mustBePerson_ok (d := 0) hsh hp h8 hq1) (Nat.le_of_ble_eq_true rfl) (by omega) (Nat.le_of_ble_eq_true rfl) ?_
  refine V_iload_n (pc := 5) (i := 3) dX11_then_5 rfl rfl ?_
  refine V_iconst (pc := 6) (v := 1) dX11_then_6 (by decide) ?_
  refine V_S2v (pc := 7) dX11_then_7 cX11_247 (X11_mustBeWhat_ok (d := 0) (m := 1) hq3 (by decide)) (Nat.le_of_ble_eq_true rfl) (by omega) (Nat.le_of_ble_eq_true rfl) ?_
  refine V_iload_n (pc := 10) (i := 2) dX11_then_10 rfl rfl ?_
  refine V_iconst (pc := 11) (v := 0) dX11_then_11 (by decide) ?_
  refine V_bipush (pc := 12) (v := 60) dX11_then_12 (by decide) ?_
  refine V_S3t (pc := 14) dX11_then_14 cX11_94 (X11_mustBeWithin_bad (d := 6) hx (by omega)) (Nat.le_of_ble_eq_true rfl) (by omega) (Nat.le_of_ble_eq_true rfl) ?_
  exact fun h' e => VX_out rfl ⟨rfl, e⟩
theorem X11_first_bad1 {s : Nat} (hsh : shC (S 0 9) = s) {pp : Nat} (hp : S s 7 = nI pp) (h8 : pp ≤ 8) {x1 : Int32} (hx : x1 < 0 ∨ nI pp ≤ x1) (hd : 7 ≤ d) : VM G mX11_first d 1 6 [.ref (b + 0), .int x1] (xT NSE (wH G b tbC S h0)) (wH G b tbC S h0) := by
  refine VM_start (ls := [some (.ref (b + 0)), some (.int x1), none]) rfl ?_
  -- %m X11_first
  refine V_aload_n (pc := 0) (i := 0) dX11_first_0 rfl rfl ?_
  refine V_iload_n (pc := 1) (i := 1) dX11_first_1 rfl rfl ?_
  refine V_V1t (pc := 2) dX11_first_2 cX11_188 (by first | assumption | rfl) (X11_mustBePerson_bad (d := 6) hsh hp hx (by omega)) (Nat.le_of_ble_eq_true rfl) (by omega) (Nat.le_of_ble_eq_true rfl) ?_
  exact fun h' e => VX_out rfl ⟨rfl, e⟩
theorem X11_waiting_bad1 {s : Nat} (hsh : shC (S 0 9) = s) {pp : Nat} (hp : S s 7 = nI pp) (h8 : pp ≤ 8) {x1 x2 : Int32} (hx : x1 < 0 ∨ nI pp ≤ x1) (hd : 7 ≤ d) : VM G mX11_waiting d 1 6 [.ref (b + 0), .int x1, .int x2] (xT NSE (wH G b tbC S h0)) (wH G b tbC S h0) := by
  refine VM_start (ls := [some (.ref (b + 0)), some (.int x1), some (.int x2), none, none]) rfl ?_
  -- %m X11_waiting
  refine V_aload_n (pc := 0) (i := 0) dX11_waiting_0 rfl rfl ?_
  refine V_iload_n (pc := 1) (i := 1) dX11_waiting_1 rfl rfl ?_
  refine V_V1t (pc := 2) dX11_waiting_2 cX11_188 (by first | assumption | rfl) (X11_mustBePerson_bad (d := 6) hsh hp hx (by omega)) (Nat.le_of_ble_eq_true rfl) (by omega) (Nat.le_of_ble_eq_true rfl) ?_
  exact fun h' e => VX_out rfl ⟨rfl, e⟩
theorem X11_waiting_bad2 {s : Nat} (hsh : shC (S 0 9) = s) {pp : Nat} (hp : S s 7 = nI pp) (h8 : pp ≤ 8) {q1 : Nat} {x2 : Int32} (hq1 : q1 < pp) (hx : x2 < 0 ∨ 60 < x2) (hd : 7 ≤ d) : VM G mX11_waiting d 1 6 [.ref (b + 0), .int (nI q1), .int x2] (xT IAE (wH G b tbC S h0)) (wH G b tbC S h0) := by
  refine VM_start (ls := [some (.ref (b + 0)), some (.int (nI q1)), some (.int x2), none, none]) rfl ?_
  -- %m X11_waiting
  refine V_aload_n (pc := 0) (i := 0) dX11_waiting_0 rfl rfl ?_
  refine V_iload_n (pc := 1) (i := 1) dX11_waiting_1 rfl rfl ?_
  refine V_V1v (pc := 2) dX11_waiting_2 cX11_188 (by first | assumption | rfl) (X11_mustBePerson_ok (d := 0) hsh hp h8 hq1) (Nat.le_of_ble_eq_true rfl) (by omega) (Nat.le_of_ble_eq_true rfl) ?_
  refine V_iload_n (pc := 5) (i := 2) dX11_waiting_5 rfl rfl ?_
  refine V_iconst (pc := 6) (v := 0) dX11_waiting_6 (by decide) ?_
  refine V_bipush (pc := 7) (v := 60) dX11_waiting_7 (by decide) ?_
  refine V_S3t (pc := 9) dX11_waiting_9 cX11_94 (X11_mustBeWithin_bad (d := 6) hx (by omega)) (Nat.le_of_ble_eq_true rfl) (by omega) (Nat.le_of_ble_eq_true rfl) ?_
  exact fun h' e => VX_out rfl ⟨rfl, e⟩
theorem X11_toBear_bad1  {x1 : Int32} (hx : x1 < 0 ∨ 60 < x1) (hd : 7 ≤ d) : VM G mX11_toBear d 1 6 [.ref (b + 0), .int x1] (xT IAE (wH G b tbC S h0)) (wH G b tbC S h0) := by
  refine VM_start (ls := [some (.ref (b + 0)), some (.int x1), none]) rfl ?_
  -- %m X11_toBear
  refine V_iload_n (pc := 0) (i := 1) dX11_toBear_0 rfl rfl ?_
  refine V_iconst (pc := 1) (v := 0) dX11_toBear_1 (by decide) ?_
  refine V_bipush (pc := 2) (v := 60) dX11_toBear_2 (by decide) ?_
  refine V_S3t (pc := 4) dX11_toBear_4 cX11_94 (X11_mustBeWithin_bad (d := 6) hx (by omega)) (Nat.le_of_ble_eq_true rfl) (by omega) (Nat.le_of_ble_eq_true rfl) ?_
  exact fun h' e => VX_out rfl ⟨rfl, e⟩
theorem X11_comes_bad1  {x1 : Int32} (hx : x1 < 0 ∨ 1023 < x1) (hd : 7 ≤ d) : VM G mX11_comes d 1 6 [.ref (b + 0), .int x1] (xT IAE (wH G b tbC S h0)) (wH G b tbC S h0) := by
  refine VM_start (ls := [some (.ref (b + 0)), some (.int x1)]) rfl ?_
  -- %m X11_comes
  refine V_iload_n (pc := 0) (i := 1) dX11_comes_0 rfl rfl ?_
  refine V_iconst (pc := 1) (v := 0) dX11_comes_1 (by decide) ?_
  refine V_sipush (pc := 2) (v := 1023) dX11_comes_2 (by decide) ?_
  refine V_S3t (pc := 5) dX11_comes_5 cX11_94 (X11_mustBeWithin_bad (d := 6) hx (by omega)) (Nat.le_of_ble_eq_true rfl) (by omega) (Nat.le_of_ble_eq_true rfl) ?_
  exact fun h' e => VX_out rfl ⟨rfl, e⟩
theorem X11_why_bad1  {x1 x2 : Int32} (hx : x2 < 0 ∨ 10 ≤ x2) (hd : 7 ≤ d) : VM G mX11_why d 1 6 [.ref (b + 0), .int x1, .int x2] (xT NSE (wH G b tbC S h0)) (wH G b tbC S h0) := by
  refine VM_start (ls := [some (.ref (b + 0)), some (.int x1), some (.int x2)]) rfl ?_
  -- %m X11_why
  refine V_iload_n (pc := 0) (i := 2) dX11_why_0 rfl rfl ?_
  refine V_S1t (pc := 1) dX11_why_1 cX11_161 (X11_mustBeThing_bad (d := 6) hx (by omega)) (Nat.le_of_ble_eq_true rfl) (by omega) (Nat.le_of_ble_eq_true rfl) ?_
  exact fun h' e => VX_out rfl ⟨rfl, e⟩
theorem X11_why_bad2  {q2 : Nat} {x1 : Int32} (hq2 : q2 < 10) (hx : x1 < 0 ∨ 1023 < x1) (hd : 7 ≤ d) : VM G mX11_why d 1 6 [.ref (b + 0), .int x1, .int (nI q2)] (xT IAE (wH G b tbC S h0)) (wH G b tbC S h0) := by
  refine VM_start (ls := [some (.ref (b + 0)), some (.int x1), some (.int (nI q2))]) rfl ?_
  -- %m X11_why
  refine V_iload_n (pc := 0) (i := 2) dX11_why_0 rfl rfl ?_
  refine V_S1v (pc := 1) dX11_why_1 cX11_161 (X11_mustBeThing_ok (d := 0) hq2) (Nat.le_of_ble_eq_true rfl) (by omega) (Nat.le_of_ble_eq_true rfl) ?_
  refine V_iload_n (pc := 4) (i := 1) dX11_why_4 rfl rfl ?_
  refine V_iconst (pc := 5) (v := 0) dX11_why_5 (by decide) ?_
  refine V_sipush (pc := 6) (v := 1023) dX11_why_6 (by decide) ?_
  refine V_S3t (pc := 9) dX11_why_9 cX11_94 (X11_mustBeWithin_bad (d := 6) hx (by omega)) (Nat.le_of_ble_eq_true rfl) (by omega) (Nat.le_of_ble_eq_true rfl) ?_
  exact fun h' e => VX_out rfl ⟨rfl, e⟩
theorem X11_needed_bad1  {x1 x2 : Int32} (hx : x2 < 0 ∨ 10 ≤ x2) (hd : 7 ≤ d) : VM G mX11_needed d 1 6 [.ref (b + 0), .int x1, .int x2] (xT NSE (wH G b tbC S h0)) (wH G b tbC S h0) := by
  refine VM_start (ls := [some (.ref (b + 0)), some (.int x1), some (.int x2), none, none, none]) rfl ?_
  -- %m X11_needed
  refine V_iload_n (pc := 0) (i := 2) dX11_needed_0 rfl rfl ?_
  refine V_S1t (pc := 1) dX11_needed_1 cX11_161 (X11_mustBeThing_bad (d := 6) hx (by omega)) (Nat.le_of_ble_eq_true rfl) (by omega) (Nat.le_of_ble_eq_true rfl) ?_
  exact fun h' e => VX_out rfl ⟨rfl, e⟩
theorem X11_needed_bad2  {q2 : Nat} {x1 : Int32} (hq2 : q2 < 10) (hx : x1 < 0 ∨ 1023 < x1) (hd : 7 ≤ d) : VM G mX11_needed d 1 6 [.ref (b + 0), .int x1, .int (nI q2)] (xT IAE (wH G b tbC S h0)) (wH G b tbC S h0) := by
  refine VM_start (ls := [some (.ref (b + 0)), some (.int x1), some (.int (nI q2)), none, none, none]) rfl ?_
  -- %m X11_needed
  refine V_iload_n (pc := 0) (i := 2) dX11_needed_0 rfl rfl ?_
  refine V_S1v (pc := 1) dX11_needed_1 cX11_161 (X11_mustBeThing_ok (d := 0) hq2) (Nat.le_of_ble_eq_true rfl) (by omega) (Nat.le_of_ble_eq_true rfl) ?_
  refine V_iload_n (pc := 4) (i := 1) dX11_needed_4 rfl rfl ?_
  refine V_iconst (pc := 5) (v := 0) dX11_needed_5 (by decide) ?_
  refine V_sipush (pc := 6) (v := 1023) dX11_needed_6 (by decide) ?_
  refine V_S3t (pc := 9) dX11_needed_9 cX11_94 (X11_mustBeWithin_bad (d := 6) hx (by omega)) (Nat.le_of_ble_eq_true rfl) (by omega) (Nat.le_of_ble_eq_true rfl) ?_
  exact fun h' e => VX_out rfl ⟨rfl, e⟩
theorem X11_fewest_bad1  {x1 x2 : Int32} (hx : x2 < 0 ∨ 10 ≤ x2) (hd : 7 ≤ d) : VM G mX11_fewest d 1 6 [.ref (b + 0), .int x1, .int x2] (xT NSE (wH G b tbC S h0)) (wH G b tbC S h0) := by
  refine VM_start (ls := [some (.ref (b + 0)), some (.int x1), some (.int x2), none, none, none]) rfl ?_
  -- %m X11_fewest
  refine V_iload_n (pc := 0) (i := 2) dX11_fewest_0 rfl rfl ?_
  refine V_S1t (pc := 1) dX11_fewest_1 cX11_161 (X11_mustBeThing_bad (d := 6) hx (by omega)) (Nat.le_of_ble_eq_true rfl) (by omega) (Nat.le_of_ble_eq_true rfl) ?_
  exact fun h' e => VX_out rfl ⟨rfl, e⟩
theorem X11_fewest_bad2  {q2 : Nat} {x1 : Int32} (hq2 : q2 < 10) (hx : x1 < 0 ∨ 1023 < x1) (hd : 7 ≤ d) : VM G mX11_fewest d 1 6 [.ref (b + 0), .int x1, .int (nI q2)] (xT IAE (wH G b tbC S h0)) (wH G b tbC S h0) := by
  refine VM_start (ls := [some (.ref (b + 0)), some (.int x1), some (.int (nI q2)), none, none, none]) rfl ?_
  -- %m X11_fewest
  refine V_iload_n (pc := 0) (i := 2) dX11_fewest_0 rfl rfl ?_
  refine V_S1v (pc := 1) dX11_fewest_1 cX11_161 (X11_mustBeThing_ok (d := 0) hq2) (Nat.le_of_ble_eq_true rfl) (by omega) (Nat.le_of_ble_eq_true rfl) ?_
  refine V_iload_n (pc := 4) (i := 1) dX11_fewest_4 rfl rfl ?_
  refine V_iconst (pc := 5) (v := 0) dX11_fewest_5 (by decide) ?_
  refine V_sipush (pc := 6) (v := 1023) dX11_fewest_6 (by decide) ?_
  refine V_S3t (pc := 9) dX11_fewest_9 cX11_94 (X11_mustBeWithin_bad (d := 6) hx (by omega)) (Nat.le_of_ble_eq_true rfl) (by omega) (Nat.le_of_ble_eq_true rfl) ?_
  exact fun h' e => VX_out rfl ⟨rfl, e⟩
theorem X11_leads_bad1  {x1 x2 : Int32} (hx : x1 < 0 ∨ 10 ≤ x1) (hd : 7 ≤ d) : VM G mX11_leads d 1 6 [.ref (b + 0), .int x1, .int x2] (xT NSE (wH G b tbC S h0)) (wH G b tbC S h0) := by
  refine VM_start (ls := [some (.ref (b + 0)), some (.int x1), some (.int x2)]) rfl ?_
  -- %m X11_leads
  refine V_iload_n (pc := 0) (i := 1) dX11_leads_0 rfl rfl ?_
  refine V_S1t (pc := 1) dX11_leads_1 cX11_161 (X11_mustBeThing_bad (d := 6) hx (by omega)) (Nat.le_of_ble_eq_true rfl) (by omega) (Nat.le_of_ble_eq_true rfl) ?_
  exact fun h' e => VX_out rfl ⟨rfl, e⟩
theorem X11_leads_bad2  {q1 : Nat} {x2 : Int32} (hq1 : q1 < 10) (hx : x2 < 0 ∨ 10 ≤ x2) (hd : 7 ≤ d) : VM G mX11_leads d 1 6 [.ref (b + 0), .int (nI q1), .int x2] (xT NSE (wH G b tbC S h0)) (wH G b tbC S h0) := by
  refine VM_start (ls := [some (.ref (b + 0)), some (.int (nI q1)), some (.int x2)]) rfl ?_
  -- %m X11_leads
  refine V_iload_n (pc := 0) (i := 1) dX11_leads_0 rfl rfl ?_
  refine V_S1v (pc := 1) dX11_leads_1 cX11_161 (X11_mustBeThing_ok (d := 0) hq1) (Nat.le_of_ble_eq_true rfl) (by omega) (Nat.le_of_ble_eq_true rfl) ?_
  refine V_iload_n (pc := 4) (i := 2) dX11_leads_4 rfl rfl ?_
  refine V_S1t (pc := 5) dX11_leads_5 cX11_161 (X11_mustBeThing_bad (d := 6) hx (by omega)) (Nat.le_of_ble_eq_true rfl) (by omega) (Nat.le_of_ble_eq_true rfl) ?_
  exact fun h' e => VX_out rfl ⟨rfl, e⟩
theorem X11_like_bad1 {s : Nat} (hsh : shC (S 0 9) = s) {pp : Nat} (hp : S s 7 = nI pp) (h8 : pp ≤ 8) {x1 x2 : Int32} (hx : x1 < 0 ∨ nI pp ≤ x1) (hd : 7 ≤ d) : VM G mX11_like d 1 6 [.ref (b + 0), .int x1, .int x2] (xT NSE (wH G b tbC S h0)) (wH G b tbC S h0) := by
  refine VM_start (ls := [some (.ref (b + 0)), some (.int x1), some (.int x2), none, none, none, none]) rfl ?_
  -- %m X11_like
  refine V_aload_n (pc := 0) (i := 0) dX11_like_0 rfl rfl ?_
  refine V_iload_n (pc := 1) (i := 1) dX11_like_1 rfl rfl ?_
  refine V_V1t (pc := 2) dX11_like_2 cX11_188 (by first | assumption | rfl) (X11_mustBePerson_bad (d := 6) hsh hp hx (by omega)) (Nat.le_of_ble_eq_true rfl) (by omega) (Nat.le_of_ble_eq_true rfl) ?_
  exact fun h' e => VX_out rfl ⟨rfl, e⟩
theorem X11_like_bad2 {s : Nat} (hsh : shC (S 0 9) = s) {pp : Nat} (hp : S s 7 = nI pp) (h8 : pp ≤ 8) {q1 : Nat} {x2 : Int32} (hq1 : q1 < pp) (hx : x2 < 0 ∨ 1 < x2) (hd : 7 ≤ d) : VM G mX11_like d 1 6 [.ref (b + 0), .int (nI q1), .int x2] (xT NSE (wH G b tbC S h0)) (wH G b tbC S h0) := by
  refine VM_start (ls := [some (.ref (b + 0)), some (.int (nI q1)), some (.int x2), none, none, none, none]) rfl ?_
  -- %m X11_like
  refine V_aload_n (pc := 0) (i := 0) dX11_like_0 rfl rfl ?_
  refine V_iload_n (pc := 1) (i := 1) dX11_like_1 rfl rfl ?_
  refine V_V1v (pc := 2) dX11_like_2 cX11_188 (by first | assumption | rfl) (X11_mustBePerson_ok (d := 0) hsh hp h8 hq1) (Nat.le_of_ble_eq_true rfl) (by omega) (Nat.le_of_ble_eq_true rfl) ?_
  refine V_iload_n (pc := 5) (i := 2) dX11_like_5 rfl rfl ?_
  refine V_iconst (pc := 6) (v := 1) dX11_like_6 (by decide) ?_
  refine V_S2t (pc := 7) dX11_like_7 cX11_247 (X11_mustBeWhat_bad (d := 6) hx (by omega)) (Nat.le_of_ble_eq_true rfl) (by omega) (Nat.le_of_ble_eq_true rfl) ?_
  exact fun h' e => VX_out rfl ⟨rfl, e⟩
theorem X11_toSend_bad1  {x1 : Int32} (hx : x1 < 0 ∨ 8 < x1) (hd : 7 ≤ d) : VM G mX11_toSend d 1 6 [.ref (b + 0), .int x1] (xT IAE (wH G b tbC S h0)) (wH G b tbC S h0) := by
  refine VM_start (ls := [some (.ref (b + 0)), some (.int x1), none, none, none, none, none]) rfl ?_
  -- %m X11_toSend
  refine V_iload_n (pc := 0) (i := 1) dX11_toSend_0 rfl rfl ?_
  refine V_iconst (pc := 1) (v := 0) dX11_toSend_1 (by decide) ?_
  refine V_bipush (pc := 2) (v := 8) dX11_toSend_2 (by decide) ?_
  refine V_S3t (pc := 4) dX11_toSend_4 cX11_94 (X11_mustBeWithin_bad (d := 6) hx (by omega)) (Nat.le_of_ble_eq_true rfl) (by omega) (Nat.le_of_ble_eq_true rfl) ?_
  exact fun h' e => VX_out rfl ⟨rfl, e⟩
theorem X11_happiest_bad1  {x1 : Int32} (hx : x1 < 0 ∨ 2 < x1) (hd : 7 ≤ d) : VM G mX11_happiest d 1 6 [.ref (b + 0), .int x1] (xT NSE (wH G b tbC S h0)) (wH G b tbC S h0) := by
  refine VM_start (ls := [some (.ref (b + 0)), some (.int x1), none, none, none, none]) rfl ?_
  -- %m X11_happiest
  refine V_iload_n (pc := 0) (i := 1) dX11_happiest_0 rfl rfl ?_
  refine V_iconst (pc := 1) (v := 2) dX11_happiest_1 (by decide) ?_
  refine V_S2t (pc := 2) dX11_happiest_2 cX11_247 (X11_mustBeWhat_bad (d := 6) hx (by omega)) (Nat.le_of_ble_eq_true rfl) (by omega) (Nat.le_of_ble_eq_true rfl) ?_
  exact fun h' e => VX_out rfl ⟨rfl, e⟩
theorem X11_critical_bad1 {s : Nat} (hsh : shC (S 0 9) = s) {pp : Nat} (hp : S s 7 = nI pp) (h8 : pp ≤ 8) {x1 : Int32} (hx : x1 < 0 ∨ nI pp ≤ x1) (hd : 7 ≤ d) : VM G mX11_critical d 1 6 [.ref (b + 0), .int x1] (xT NSE (wH G b tbC S h0)) (wH G b tbC S h0) := by
  refine VM_start (ls := [some (.ref (b + 0)), some (.int x1), none, none, none, none]) rfl ?_
  -- %m X11_critical
  refine V_aload_n (pc := 0) (i := 0) dX11_critical_0 rfl rfl ?_
  refine V_iload_n (pc := 1) (i := 1) dX11_critical_1 rfl rfl ?_
  refine V_V1t (pc := 2) dX11_critical_2 cX11_188 (by first | assumption | rfl) (X11_mustBePerson_bad (d := 6) hsh hp hx (by omega)) (Nat.le_of_ble_eq_true rfl) (by omega) (Nat.le_of_ble_eq_true rfl) ?_
  exact fun h' e => VX_out rfl ⟨rfl, e⟩
theorem X11_bestMissed_bad1 {s : Nat} (hsh : shC (S 0 9) = s) {pp : Nat} (hp : S s 7 = nI pp) (h8 : pp ≤ 8) {x1 : Int32} (hx : x1 < 0 ∨ nI pp ≤ x1) (hd : 7 ≤ d) : VM G mX11_bestMissed d 1 6 [.ref (b + 0), .int x1] (xT NSE (wH G b tbC S h0)) (wH G b tbC S h0) := by
  refine VM_start (ls := [some (.ref (b + 0)), some (.int x1), none, none]) rfl ?_
  -- %m X11_bestMissed
  refine V_aload_n (pc := 0) (i := 0) dX11_bestMissed_0 rfl rfl ?_
  refine V_iload_n (pc := 1) (i := 1) dX11_bestMissed_1 rfl rfl ?_
  refine V_V1t (pc := 2) dX11_bestMissed_2 cX11_188 (by first | assumption | rfl) (X11_mustBePerson_bad (d := 6) hsh hp hx (by omega)) (Nat.le_of_ble_eq_true rfl) (by omega) (Nat.le_of_ble_eq_true rfl) ?_
  exact fun h' e => VX_out rfl ⟨rfl, e⟩
theorem X11_common_bad1 {s : Nat} (hsh : shC (S 0 9) = s) {pp : Nat} (hp : S s 7 = nI pp) (h8 : pp ≤ 8) {x1 x2 : Int32} (hx : x1 < 0 ∨ nI pp ≤ x1) (hd : 7 ≤ d) : VM G mX11_common d 1 6 [.ref (b + 0), .int x1, .int x2] (xT NSE (wH G b tbC S h0)) (wH G b tbC S h0) := by
  refine VM_start (ls := [some (.ref (b + 0)), some (.int x1), some (.int x2)]) rfl ?_
  -- %m X11_common
  refine V_aload_n (pc := 0) (i := 0) dX11_common_0 rfl rfl ?_
  refine V_iload_n (pc := 1) (i := 1) dX11_common_1 rfl rfl ?_
  refine V_V1t (pc := 2) dX11_common_2 cX11_188 (by first | assumption | rfl) (X11_mustBePerson_bad (d := 6) hsh hp hx (by omega)) (Nat.le_of_ble_eq_true rfl) (by omega) (Nat.le_of_ble_eq_true rfl) ?_
  exact fun h' e => VX_out rfl ⟨rfl, e⟩
theorem X11_common_bad2 {s : Nat} (hsh : shC (S 0 9) = s) {pp : Nat} (hp : S s 7 = nI pp) (h8 : pp ≤ 8) {q1 : Nat} {x2 : Int32} (hq1 : q1 < pp) (hx : x2 < 0 ∨ nI pp ≤ x2) (hd : 7 ≤ d) : VM G mX11_common d 1 6 [.ref (b + 0), .int (nI q1), .int x2] (xT NSE (wH G b tbC S h0)) (wH G b tbC S h0) := by
  refine VM_start (ls := [some (.ref (b + 0)), some (.int (nI q1)), some (.int x2)]) rfl ?_
  -- %m X11_common
  refine V_aload_n (pc := 0) (i := 0) dX11_common_0 rfl rfl ?_
  refine V_iload_n (pc := 1) (i := 1) dX11_common_1 rfl rfl ?_
  refine V_V1v (pc := 2) dX11_common_2 cX11_188 (by first | assumption | rfl) (X11_mustBePerson_ok (d := 0) hsh hp h8 hq1) (Nat.le_of_ble_eq_true rfl) (by omega) (Nat.le_of_ble_eq_true rfl) ?_
  refine V_aload_n (pc := 5) (i := 0) dX11_common_5 rfl rfl ?_
  refine V_iload_n (pc := 6) (i := 2) dX11_common_6 rfl rfl ?_
  refine V_V1t (pc := 7) dX11_common_7 cX11_188 (by first | assumption | rfl) (X11_mustBePerson_bad (d := 6) hsh hp hx (by omega)) (Nat.le_of_ble_eq_true rfl) (by omega) (Nat.le_of_ble_eq_true rfl) ?_
  exact fun h' e => VX_out rfl ⟨rfl, e⟩
theorem X11_apart_bad1 {s : Nat} (hsh : shC (S 0 9) = s) {pp : Nat} (hp : S s 7 = nI pp) (h8 : pp ≤ 8) {x1 x2 : Int32} (hx : x1 < 0 ∨ nI pp ≤ x1) (hd : 7 ≤ d) : VM G mX11_apart d 1 6 [.ref (b + 0), .int x1, .int x2] (xT NSE (wH G b tbC S h0)) (wH G b tbC S h0) := by
  refine VM_start (ls := [some (.ref (b + 0)), some (.int x1), some (.int x2)]) rfl ?_
  -- %m X11_apart
  refine V_aload_n (pc := 0) (i := 0) dX11_apart_0 rfl rfl ?_
  refine V_iload_n (pc := 1) (i := 1) dX11_apart_1 rfl rfl ?_
  refine V_V1t (pc := 2) dX11_apart_2 cX11_188 (by first | assumption | rfl) (X11_mustBePerson_bad (d := 6) hsh hp hx (by omega)) (Nat.le_of_ble_eq_true rfl) (by omega) (Nat.le_of_ble_eq_true rfl) ?_
  exact fun h' e => VX_out rfl ⟨rfl, e⟩
theorem X11_apart_bad2 {s : Nat} (hsh : shC (S 0 9) = s) {pp : Nat} (hp : S s 7 = nI pp) (h8 : pp ≤ 8) {q1 : Nat} {x2 : Int32} (hq1 : q1 < pp) (hx : x2 < 0 ∨ nI pp ≤ x2) (hd : 7 ≤ d) : VM G mX11_apart d 1 6 [.ref (b + 0), .int (nI q1), .int x2] (xT NSE (wH G b tbC S h0)) (wH G b tbC S h0) := by
  refine VM_start (ls := [some (.ref (b + 0)), some (.int (nI q1)), some (.int x2)]) rfl ?_
  -- %m X11_apart
  refine V_aload_n (pc := 0) (i := 0) dX11_apart_0 rfl rfl ?_
  refine V_iload_n (pc := 1) (i := 1) dX11_apart_1 rfl rfl ?_
  refine V_V1v (pc := 2) dX11_apart_2 cX11_188 (by first | assumption | rfl) (X11_mustBePerson_ok (d := 0) hsh hp h8 hq1) (Nat.le_of_ble_eq_true rfl) (by omega) (Nat.le_of_ble_eq_true rfl) ?_
  refine V_aload_n (pc := 5) (i := 0) dX11_apart_5 rfl rfl ?_
  refine V_iload_n (pc := 6) (i := 2) dX11_apart_6 rfl rfl ?_
  refine V_V1t (pc := 7) dX11_apart_7 cX11_188 (by first | assumption | rfl) (X11_mustBePerson_bad (d := 6) hsh hp hx (by omega)) (Nat.le_of_ble_eq_true rfl) (by omega) (Nat.le_of_ble_eq_true rfl) ?_
  exact fun h' e => VX_out rfl ⟨rfl, e⟩
theorem X11_sets_bad1  {x1 : Int32} (hx : x1 < 0 ∨ 10 ≤ x1) (hd : 7 ≤ d) : VM G mX11_sets d 1 6 [.ref (b + 0), .int x1] (xT NSE (wH G b tbC S h0)) (wH G b tbC S h0) := by
  refine VM_start (ls := [some (.ref (b + 0)), some (.int x1)]) rfl ?_
  -- %m X11_sets
  refine V_iload_n (pc := 0) (i := 1) dX11_sets_0 rfl rfl ?_
  refine V_S1t (pc := 1) dX11_sets_1 cX11_161 (X11_mustBeThing_bad (d := 6) hx (by omega)) (Nat.le_of_ble_eq_true rfl) (by omega) (Nat.le_of_ble_eq_true rfl) ?_
  exact fun h' e => VX_out rfl ⟨rfl, e⟩
theorem X11_toDeny_bad1  {x1 x2 : Int32} (hx : x2 < 0 ∨ 10 ≤ x2) (hd : 7 ≤ d) : VM G mX11_toDeny d 1 6 [.ref (b + 0), .int x1, .int x2] (xT NSE (wH G b tbC S h0)) (wH G b tbC S h0) := by
  refine VM_start (ls := [some (.ref (b + 0)), some (.int x1), some (.int x2), none, none, none, none]) rfl ?_
  -- %m X11_toDeny
  refine V_iload_n (pc := 0) (i := 2) dX11_toDeny_0 rfl rfl ?_
  refine V_S1t (pc := 1) dX11_toDeny_1 cX11_161 (X11_mustBeThing_bad (d := 6) hx (by omega)) (Nat.le_of_ble_eq_true rfl) (by omega) (Nat.le_of_ble_eq_true rfl) ?_
  exact fun h' e => VX_out rfl ⟨rfl, e⟩
theorem X11_toDeny_bad2  {q2 : Nat} {x1 : Int32} (hq2 : q2 < 10) (hx : x1 < 0 ∨ 1023 < x1) (hd : 7 ≤ d) : VM G mX11_toDeny d 1 6 [.ref (b + 0), .int x1, .int (nI q2)] (xT IAE (wH G b tbC S h0)) (wH G b tbC S h0) := by
  refine VM_start (ls := [some (.ref (b + 0)), some (.int x1), some (.int (nI q2)), none, none, none, none]) rfl ?_
  -- %m X11_toDeny
  refine V_iload_n (pc := 0) (i := 2) dX11_toDeny_0 rfl rfl ?_
  refine V_S1v (pc := 1) dX11_toDeny_1 cX11_161 (X11_mustBeThing_ok (d := 0) hq2) (Nat.le_of_ble_eq_true rfl) (by omega) (Nat.le_of_ble_eq_true rfl) ?_
  refine V_iload_n (pc := 4) (i := 1) dX11_toDeny_4 rfl rfl ?_
  refine V_iconst (pc := 5) (v := 0) dX11_toDeny_5 (by decide) ?_
  refine V_sipush (pc := 6) (v := 1023) dX11_toDeny_6 (by decide) ?_
  refine V_S3t (pc := 9) dX11_toDeny_9 cX11_94 (X11_mustBeWithin_bad (d := 6) hx (by omega)) (Nat.le_of_ble_eq_true rfl) (by omega) (Nat.le_of_ble_eq_true rfl) ?_
  exact fun h' e => VX_out rfl ⟨rfl, e⟩
theorem X11_sources_bad1  {x1 : Int32} (hx : x1 < 0 ∨ 10 ≤ x1) (hd : 7 ≤ d) : VM G mX11_sources d 1 6 [.ref (b + 0), .int x1] (xT NSE (wH G b tbC S h0)) (wH G b tbC S h0) := by
  refine VM_start (ls := [some (.ref (b + 0)), some (.int x1), none, none]) rfl ?_
  -- %m X11_sources
  refine V_iload_n (pc := 0) (i := 1) dX11_sources_0 rfl rfl ?_
  refine V_S1t (pc := 1) dX11_sources_1 cX11_161 (X11_mustBeThing_bad (d := 6) hx (by omega)) (Nat.le_of_ble_eq_true rfl) (by omega) (Nat.le_of_ble_eq_true rfl) ?_
  exact fun h' e => VX_out rfl ⟨rfl, e⟩
theorem X11_times_bad1 {s : Nat} (hsh : shC (S 0 9) = s) {pp : Nat} (hp : S s 7 = nI pp) (h8 : pp ≤ 8) {x1 x2 : Int32} (hx : x1 < 0 ∨ nI pp ≤ x1) (hd : 7 ≤ d) : VM G mX11_times d 1 6 [.ref (b + 0), .int x1, .int x2] (xT NSE (wH G b tbC S h0)) (wH G b tbC S h0) := by
  refine VM_start (ls := [some (.ref (b + 0)), some (.int x1), some (.int x2), none, none]) rfl ?_
  -- %m X11_times
  refine V_aload_n (pc := 0) (i := 0) dX11_times_0 rfl rfl ?_
  refine V_iload_n (pc := 1) (i := 1) dX11_times_1 rfl rfl ?_
  refine V_V1t (pc := 2) dX11_times_2 cX11_188 (by first | assumption | rfl) (X11_mustBePerson_bad (d := 6) hsh hp hx (by omega)) (Nat.le_of_ble_eq_true rfl) (by omega) (Nat.le_of_ble_eq_true rfl) ?_
  exact fun h' e => VX_out rfl ⟨rfl, e⟩
theorem X11_times_bad2 {s : Nat} (hsh : shC (S 0 9) = s) {pp : Nat} (hp : S s 7 = nI pp) (h8 : pp ≤ 8) {q1 : Nat} {x2 : Int32} (hq1 : q1 < pp) (hx : x2 < 0 ∨ 60 < x2) (hd : 7 ≤ d) : VM G mX11_times d 1 6 [.ref (b + 0), .int (nI q1), .int x2] (xT IAE (wH G b tbC S h0)) (wH G b tbC S h0) := by
  refine VM_start (ls := [some (.ref (b + 0)), some (.int (nI q1)), some (.int x2), none, none]) rfl ?_
  -- %m X11_times
  refine V_aload_n (pc := 0) (i := 0) dX11_times_0 rfl rfl ?_
  refine V_iload_n (pc := 1) (i := 1) dX11_times_1 rfl rfl ?_
  refine V_V1v (pc := 2) dX11_times_2 cX11_188 (by first | assumption | rfl) (X11_mustBePerson_ok (d := 0) hsh hp h8 hq1) (Nat.le_of_ble_eq_true rfl) (by omega) (Nat.le_of_ble_eq_true rfl) ?_
  refine V_iload_n (pc := 5) (i := 2) dX11_times_5 rfl rfl ?_
  refine V_iconst (pc := 6) (v := 0) dX11_times_6 (by decide) ?_
  refine V_bipush (pc := 7) (v := 60) dX11_times_7 (by decide) ?_
  refine V_S3t (pc := 9) dX11_times_9 cX11_94 (X11_mustBeWithin_bad (d := 6) hx (by omega)) (Nat.le_of_ble_eq_true rfl) (by omega) (Nat.le_of_ble_eq_true rfl) ?_
  exact fun h' e => VX_out rfl ⟨rfl, e⟩
theorem X11_fullest_bad1  {x1 x2 : Int32} (hx : x2 < 0 ∨ 1 < x2) (hd : 7 ≤ d) : VM G mX11_fullest d 1 6 [.ref (b + 0), .int x1, .int x2] (xT NSE (wH G b tbC S h0)) (wH G b tbC S h0) := by
  refine VM_start (ls := [some (.ref (b + 0)), some (.int x1), some (.int x2), none, none, none, none]) rfl ?_
  -- %m X11_fullest
  refine V_iload_n (pc := 0) (i := 2) dX11_fullest_0 rfl rfl ?_
  refine V_iconst (pc := 1) (v := 1) dX11_fullest_1 (by decide) ?_
  refine V_S2t (pc := 2) dX11_fullest_2 cX11_247 (X11_mustBeWhat_bad (d := 6) hx (by omega)) (Nat.le_of_ble_eq_true rfl) (by omega) (Nat.le_of_ble_eq_true rfl) ?_
  exact fun h' e => VX_out rfl ⟨rfl, e⟩
theorem X11_fullest_bad2  {q2 : Nat} {x1 : Int32} (hq2 : q2 ≤ 1) (hx : x1 < 1 ∨ 60 < x1) (hd : 7 ≤ d) : VM G mX11_fullest d 1 6 [.ref (b + 0), .int x1, .int (nI q2)] (xT IAE (wH G b tbC S h0)) (wH G b tbC S h0) := by
  refine VM_start (ls := [some (.ref (b + 0)), some (.int x1), some (.int (nI q2)), none, none, none, none]) rfl ?_
  -- %m X11_fullest
  refine V_iload_n (pc := 0) (i := 2) dX11_fullest_0 rfl rfl ?_
  refine V_iconst (pc := 1) (v := 1) dX11_fullest_1 (by decide) ?_
  refine V_S2v (pc := 2) dX11_fullest_2 cX11_247 (X11_mustBeWhat_ok (d := 0) (m := 1) hq2 (by decide)) (Nat.le_of_ble_eq_true rfl) (by omega) (Nat.le_of_ble_eq_true rfl) ?_
  refine V_iload_n (pc := 5) (i := 1) dX11_fullest_5 rfl rfl ?_
  refine V_iconst (pc := 6) (v := 1) dX11_fullest_6 (by decide) ?_
  refine V_bipush (pc := 7) (v := 60) dX11_fullest_7 (by decide) ?_
  refine V_S3t (pc := 9) dX11_fullest_9 cX11_94 (X11_mustBeWithin_bad (d := 6) hx (by omega)) (Nat.le_of_ble_eq_true rfl) (by omega) (Nat.le_of_ble_eq_true rfl) ?_
  exact fun h' e => VX_out rfl ⟨rfl, e⟩
theorem X11_see_bad1 {s : Nat} (hsh : shC (S 0 9) = s) {pp : Nat} (hp : S s 7 = nI pp) (h8 : pp ≤ 8) {x1 x2 x3 : Int32} (hx : x1 < 0 ∨ nI pp ≤ x1) (hd : 7 ≤ d) : VM G mX11_see d 1 6 [.ref (b + 0), .int x1, .int x2, .int x3] (xT NSE (wH G b tbC S h0)) (wH G b tbC S h0) := by
  refine VM_start (ls := [some (.ref (b + 0)), some (.int x1), some (.int x2), some (.int x3)]) rfl ?_
  -- %m X11_see
  refine V_aload_n (pc := 0) (i := 0) dX11_see_0 rfl rfl ?_
  refine V_iload_n (pc := 1) (i := 1) dX11_see_1 rfl rfl ?_
  refine V_V1t (pc := 2) dX11_see_2 cX11_188 (by first | assumption | rfl) (X11_mustBePerson_bad (d := 6) hsh hp hx (by omega)) (Nat.le_of_ble_eq_true rfl) (by omega) (Nat.le_of_ble_eq_true rfl) ?_
  exact fun h' e => VX_out rfl ⟨rfl, e⟩
theorem X11_see_bad2 {s : Nat} (hsh : shC (S 0 9) = s) {pp : Nat} (hp : S s 7 = nI pp) (h8 : pp ≤ 8) {q1 : Nat} {x2 x3 : Int32} (hq1 : q1 < pp) (hx : x2 < 0 ∨ 10 ≤ x2) (hd : 7 ≤ d) : VM G mX11_see d 1 6 [.ref (b + 0), .int (nI q1), .int x2, .int x3] (xT NSE (wH G b tbC S h0)) (wH G b tbC S h0) := by
  refine VM_start (ls := [some (.ref (b + 0)), some (.int (nI q1)), some (.int x2), some (.int x3)]) rfl ?_
  -- %m X11_see
  refine V_aload_n (pc := 0) (i := 0) dX11_see_0 rfl rfl ?_
  refine V_iload_n (pc := 1) (i := 1) dX11_see_1 rfl rfl ?_
  refine V_V1v (pc := 2) dX11_see_2 cX11_188 (by first | assumption | rfl) (X11_mustBePerson_ok (d := 0) hsh hp h8 hq1) (Nat.le_of_ble_eq_true rfl) (by omega) (Nat.le_of_ble_eq_true rfl) ?_
  refine V_iload_n (pc := 5) (i := 2) dX11_see_5 rfl rfl ?_
  refine V_S1t (pc := 6) dX11_see_6 cX11_161 (X11_mustBeThing_bad (d := 6) hx (by omega)) (Nat.le_of_ble_eq_true rfl) (by omega) (Nat.le_of_ble_eq_true rfl) ?_
  exact fun h' e => VX_out rfl ⟨rfl, e⟩
theorem X11_tells_bad1 {s : Nat} (hsh : shC (S 0 9) = s) {pp : Nat} (hp : S s 7 = nI pp) (h8 : pp ≤ 8) {x1 : Int32} (hx : x1 < 0 ∨ nI pp ≤ x1) (hd : 7 ≤ d) : VM G mX11_tells d 1 6 [.ref (b + 0), .int x1] (xT NSE (wH G b tbC S h0)) (wH G b tbC S h0) := by
  refine VM_start (ls := [some (.ref (b + 0)), some (.int x1)]) rfl ?_
  -- %m X11_tells
  refine V_aload_n (pc := 0) (i := 0) dX11_tells_0 rfl rfl ?_
  refine V_iload_n (pc := 1) (i := 1) dX11_tells_1 rfl rfl ?_
  refine V_V1t (pc := 2) dX11_tells_2 cX11_188 (by first | assumption | rfl) (X11_mustBePerson_bad (d := 6) hsh hp hx (by omega)) (Nat.le_of_ble_eq_true rfl) (by omega) (Nat.le_of_ble_eq_true rfl) ?_
  exact fun h' e => VX_out rfl ⟨rfl, e⟩
theorem X11_look_bad1 {s : Nat} (hsh : shC (S 0 9) = s) {pp : Nat} (hp : S s 7 = nI pp) (h8 : pp ≤ 8) {x1 x2 : Int32} (hx : x1 < 0 ∨ nI pp ≤ x1) (hd : 7 ≤ d) : VM G mX11_look d 1 6 [.ref (b + 0), .int x1, .int x2] (xT NSE (wH G b tbC S h0)) (wH G b tbC S h0) := by
  refine VM_start (ls := [some (.ref (b + 0)), some (.int x1), some (.int x2), none, none, none, none, none, none]) rfl ?_
  -- %m X11_look
  refine V_aload_n (pc := 0) (i := 0) dX11_look_0 rfl rfl ?_
  refine V_iload_n (pc := 1) (i := 1) dX11_look_1 rfl rfl ?_
  refine V_V1t (pc := 2) dX11_look_2 cX11_188 (by first | assumption | rfl) (X11_mustBePerson_bad (d := 6) hsh hp hx (by omega)) (Nat.le_of_ble_eq_true rfl) (by omega) (Nat.le_of_ble_eq_true rfl) ?_
  exact fun h' e => VX_out rfl ⟨rfl, e⟩
theorem X11_look_bad2 {s : Nat} (hsh : shC (S 0 9) = s) {pp : Nat} (hp : S s 7 = nI pp) (h8 : pp ≤ 8) {q1 : Nat} {x2 : Int32} (hq1 : q1 < pp) (hx : x2 < 0 ∨ 1 < x2) (hd : 7 ≤ d) : VM G mX11_look d 1 6 [.ref (b + 0), .int (nI q1), .int x2] (xT NSE (wH G b tbC S h0)) (wH G b tbC S h0) := by
  refine VM_start (ls := [some (.ref (b + 0)), some (.int (nI q1)), some (.int x2), none, none, none, none, none, none]) rfl ?_
  -- %m X11_look
  refine V_aload_n (pc := 0) (i := 0) dX11_look_0 rfl rfl ?_
  refine V_iload_n (pc := 1) (i := 1) dX11_look_1 rfl rfl ?_
  refine V_V1v (pc := 2) dX11_look_2 cX11_188 (by first | assumption | rfl) (X11_mustBePerson_ok (d := 0) hsh hp h8 hq1) (Nat.le_of_ble_eq_true rfl) (by omega) (Nat.le_of_ble_eq_true rfl) ?_
  refine V_iload_n (pc := 5) (i := 2) dX11_look_5 rfl rfl ?_
  refine V_iconst (pc := 6) (v := 1) dX11_look_6 (by decide) ?_
  refine V_S2t (pc := 7) dX11_look_7 cX11_247 (X11_mustBeWhat_bad (d := 6) hx (by omega)) (Nat.le_of_ble_eq_true rfl) (by omega) (Nat.le_of_ble_eq_true rfl) ?_
  exact fun h' e => VX_out rfl ⟨rfl, e⟩
theorem X11_game_bad1 {s : Nat} (hsh : shC (S 0 9) = s) {pp : Nat} (hp : S s 7 = nI pp) (h8 : pp ≤ 8) {x1 x2 x3 : Int32} (hx : x1 < 0 ∨ nI pp ≤ x1) (hd : 7 ≤ d) : VM G mX11_game d 1 6 [.ref (b + 0), .int x1, .int x2, .int x3] (xT NSE (wH G b tbC S h0)) (wH G b tbC S h0) := by
  refine VM_start (ls := [some (.ref (b + 0)), some (.int x1), some (.int x2), some (.int x3), none, none, none, none, none, none]) rfl ?_
  -- %m X11_game
  refine V_aload_n (pc := 0) (i := 0) dX11_game_0 rfl rfl ?_
  refine V_iload_n (pc := 1) (i := 1) dX11_game_1 rfl rfl ?_
  refine V_V1t (pc := 2) dX11_game_2 cX11_188 (by first | assumption | rfl) (X11_mustBePerson_bad (d := 6) hsh hp hx (by omega)) (Nat.le_of_ble_eq_true rfl) (by omega) (Nat.le_of_ble_eq_true rfl) ?_
  exact fun h' e => VX_out rfl ⟨rfl, e⟩
theorem X11_game_bad2 {s : Nat} (hsh : shC (S 0 9) = s) {pp : Nat} (hp : S s 7 = nI pp) (h8 : pp ≤ 8) {q1 : Nat} {x2 x3 : Int32} (hq1 : q1 < pp) (hx : x2 < 0 ∨ nI pp ≤ x2) (hd : 7 ≤ d) : VM G mX11_game d 1 6 [.ref (b + 0), .int (nI q1), .int x2, .int x3] (xT NSE (wH G b tbC S h0)) (wH G b tbC S h0) := by
  refine VM_start (ls := [some (.ref (b + 0)), some (.int (nI q1)), some (.int x2), some (.int x3), none, none, none, none, none, none]) rfl ?_
  -- %m X11_game
  refine V_aload_n (pc := 0) (i := 0) dX11_game_0 rfl rfl ?_
  refine V_iload_n (pc := 1) (i := 1) dX11_game_1 rfl rfl ?_
  refine V_V1v (pc := 2) dX11_game_2 cX11_188 (by first | assumption | rfl) (X11_mustBePerson_ok (d := 0) hsh hp h8 hq1) (Nat.le_of_ble_eq_true rfl) (by omega) (Nat.le_of_ble_eq_true rfl) ?_
  refine V_aload_n (pc := 5) (i := 0) dX11_game_5 rfl rfl ?_
  refine V_iload_n (pc := 6) (i := 2) dX11_game_6 rfl rfl ?_
  refine V_V1t (pc := 7) dX11_game_7 cX11_188 (by first | assumption | rfl) (X11_mustBePerson_bad (d := 6) hsh hp hx (by omega)) (Nat.le_of_ble_eq_true rfl) (by omega) (Nat.le_of_ble_eq_true rfl) ?_
  exact fun h' e => VX_out rfl ⟨rfl, e⟩
theorem X11_game_bad3 {s : Nat} (hsh : shC (S 0 9) = s) {pp : Nat} (hp : S s 7 = nI pp) (h8 : pp ≤ 8) {q1 q2 : Nat} {x3 : Int32} (hq1 : q1 < pp) (hq2 : q2 < pp) (hx : x3 < 0 ∨ 1 < x3) (hd : 7 ≤ d) : VM G mX11_game d 1 6 [.ref (b + 0), .int (nI q1), .int (nI q2), .int x3] (xT NSE (wH G b tbC S h0)) (wH G b tbC S h0) := by
  refine VM_start (ls := [some (.ref (b + 0)), some (.int (nI q1)), some (.int (nI q2)), some (.int x3), none, none, none, none, none, none]) rfl ?_
  -- %m X11_game
  refine V_aload_n (pc := 0) (i := 0) dX11_game_0 rfl rfl ?_
  refine V_iload_n (pc := 1) (i := 1) dX11_game_1 rfl rfl ?_
  refine V_V1v (pc := 2) dX11_game_2 cX11_188 (by first | assumption | rfl) (X11_mustBePerson_ok (d := 0) hsh hp h8 hq1) (Nat.le_of_ble_eq_true rfl) (by omega) (Nat.le_of_ble_eq_true rfl) ?_
  refine V_aload_n (pc := 5) (i := 0) dX11_game_5 rfl rfl ?_
  refine V_iload_n (pc := 6) (i := 2) dX11_game_6 rfl rfl ?_
  refine V_V1v (pc := 7) dX11_game_7 cX11_188 (by first | assumption | rfl) (X11_mustBePerson_ok (d := 0) hsh hp h8 hq2) (Nat.le_of_ble_eq_true rfl) (by omega) (Nat.le_of_ble_eq_true rfl) ?_
  refine V_iload_n (pc := 10) (i := 3) dX11_game_10 rfl rfl ?_
  refine V_iconst (pc := 11) (v := 1) dX11_game_11 (by decide) ?_
  refine V_S2t (pc := 12) dX11_game_12 cX11_247 (X11_mustBeWhat_bad (d := 6) hx (by omega)) (Nat.le_of_ble_eq_true rfl) (by omega) (Nat.le_of_ble_eq_true rfl) ?_
  exact fun h' e => VX_out rfl ⟨rfl, e⟩
theorem X11_years_bad1  {x1 x2 x3 : Int32} (hx : x3 < 0 ∨ 2 < x3) (hd : 7 ≤ d) : VM G mX11_years d 1 6 [.ref (b + 0), .int x1, .int x2, .int x3] (xT NSE (wH G b tbC S h0)) (wH G b tbC S h0) := by
  refine VM_start (ls := [some (.ref (b + 0)), some (.int x1), some (.int x2), some (.int x3), none, none]) rfl ?_
  -- %m X11_years
  refine V_iload_n (pc := 0) (i := 3) dX11_years_0 rfl rfl ?_
  refine V_iconst (pc := 1) (v := 2) dX11_years_1 (by decide) ?_
  refine V_S2t (pc := 2) dX11_years_2 cX11_247 (X11_mustBeWhat_bad (d := 6) hx (by omega)) (Nat.le_of_ble_eq_true rfl) (by omega) (Nat.le_of_ble_eq_true rfl) ?_
  exact fun h' e => VX_out rfl ⟨rfl, e⟩
theorem X11_years_bad2  {q3 : Nat} {x1 x2 : Int32} (hq3 : q3 ≤ 2) (hx : x2 < 0 ∨ 60 < x2) (hd : 7 ≤ d) : VM G mX11_years d 1 6 [.ref (b + 0), .int x1, .int x2, .int (nI q3)] (xT IAE (wH G b tbC S h0)) (wH G b tbC S h0) := by
  refine VM_start (ls := [some (.ref (b + 0)), some (.int x1), some (.int x2), some (.int (nI q3)), none, none]) rfl ?_
  -- %m X11_years
  refine V_iload_n (pc := 0) (i := 3) dX11_years_0 rfl rfl ?_
  refine V_iconst (pc := 1) (v := 2) dX11_years_1 (by decide) ?_
  refine V_S2v (pc := 2) dX11_years_2 cX11_247 (X11_mustBeWhat_ok (d := 0) (m := 2) hq3 (by decide)) (Nat.le_of_ble_eq_true rfl) (by omega) (Nat.le_of_ble_eq_true rfl) ?_
  refine V_iload_n (pc := 5) (i := 2) dX11_years_5 rfl rfl ?_
  refine V_iconst (pc := 6) (v := 0) dX11_years_6 (by decide) ?_
  refine V_bipush (pc := 7) (v := 60) dX11_years_7 (by decide) ?_
  refine V_S3t (pc := 9) dX11_years_9 cX11_94 (X11_mustBeWithin_bad (d := 6) hx (by omega)) (Nat.le_of_ble_eq_true rfl) (by omega) (Nat.le_of_ble_eq_true rfl) ?_
  exact fun h' e => VX_out rfl ⟨rfl, e⟩
end Bad
