/-! ===== the model: what comes ===== -/
section M2
variable {G : xG} {d : Nat} {b : Nat} {S : Nat → Nat → Int32} {h0 h : xH}
theorem b2i_1 {c : Bool} : b2i c = 1 ↔ c = true := by cases c <;> decide
/-- whether the IF i brings something, by the model's rows -/
def brM (nd br gv kd : Nat → Int32) (dn t : Int32) (i : Nat) : Bool := !hasB dn (nI i) && (decide (t &&& nd i = nd i) == decide (kd i = 0)) && decide (t &&& br i = 0) && !hasB t (gv i)
theorem X12_brings {i : Nat} (hi : i < 12) (t : Int32) (hd : 1 ≤ d) : VM G mX12_brings d 0 0 [.ref (b + 0), .int (nI i), .int t] (xE (some (.int (b2i (brM (S 10) (S 11) (S 12) (S 9) (S 0 34) t i)))) (wH G b tbM S h0)) (wH G b tbM S h0) := by
  refine VM_start (ls := [some (.ref (b + 0)), some (.int (nI i)), some (.int t), none]) rfl ?_
  -- %m X12_brings
  have fin : ∀ al : Bool, al = decide (t &&& S 10 i = S 10 i) → V G mX12_brings d 0 0 (xE (some (.int (b2i (brM (S 10) (S 11) (S 12) (S 9) (S 0 34) t i)))) (wH G b tbM S h0)) 22 [some (.ref (b + 0)), some (.int (nI i)), some (.int t), none] [.int (b2i al)] (wH G b tbM S h0) := by
    intro al hal
    unfold brM
    rw [← hal]
    refine V_istore_n (pc := 22) (i := 3) dX12_brings_22 rfl (by decide) rfl ?_
    refine V_aload_n (pc := 23) (i := 0) dX12_brings_23 rfl rfl ?_
    refine VW_getI (pc := 24) dX12_brings_24 fX12_304 (by first | assumption | rfl) rfl ?_
    refine V_iload_n (pc := 27) (i := 1) dX12_brings_27 rfl rfl ?_
    refine V_S2i (pc := 28) dX12_brings_28 cX12_263 (X12_isOf (d := 0) _ _) (Nat.le_of_ble_eq_true rfl) (by omega) (Nat.le_of_ble_eq_true rfl) ?_
    refine V_if_ne (pc := 31) 80 dX12_brings_31 rfl (fun c31 => ?_) (fun c31 => ?_)
    · rw [b2i_n0.mp c31]
      refine V_iconst (pc := 80) (v := 0) dX12_brings_80 (by decide) ?_
      exact VE_zret (pc := 81) dX12_brings_81 rfl (Or.inl rfl) rfl rfl
    rw [b2i_0.mp c31]
    have j49 : ∀ kz : Bool, kz = decide (S 9 i = 0) → V G mX12_brings d 0 0 (xE (some (.int (b2i (!false && (al == decide (S 9 i = 0)) && decide (t &&& S 11 i = 0) && !hasB t (S 12 i))))) (wH G b tbM S h0)) 49 [some (.ref (b + 0)), some (.int (nI i)), some (.int t), some (.int (b2i al))] [.int (b2i kz), .int (b2i al)] (wH G b tbM S h0) := by
      intro kz hkz
      rw [← hkz]
      refine V_icmp_ne (pc := 49) 80 dX12_brings_49 rfl (fun c49 => ?_) (fun c49 => ?_)
      · have e : (al == kz) = false := by cases al <;> cases kz <;> simp_all [b2i]
        rw [e]
        refine V_iconst (pc := 80) (v := 0) dX12_brings_80 (by decide) ?_
        exact VE_zret (pc := 81) dX12_brings_81 rfl (Or.inl rfl) rfl rfl
      have e : (al == kz) = true := by cases al <;> cases kz <;> simp_all [b2i]
      rw [e]
      refine V_iload_n (pc := 52) (i := 2) dX12_brings_52 rfl rfl ?_
      refine V_aload_n (pc := 53) (i := 0) dX12_brings_53 rfl rfl ?_
      refine VW_getR (pc := 54) dX12_brings_54 fX12_61 (by first | assumption | rfl) rfl ?_
      refine V_iload_n (pc := 57) (i := 1) dX12_brings_57 rfl rfl ?_
      refine VW_ialdN (pc := 58) dX12_brings_58 (by first | assumption | rfl) rfl (by omega) (by first | decide | omega) ?_
      refine V_iand (pc := 59) dX12_brings_59 ?_
      refine V_if_ne (pc := 60) 80 dX12_brings_60 rfl (fun c60 => ?_) (fun c60 => ?_)
      · rw [decide_eq_false c60]
        refine V_iconst (pc := 80) (v := 0) dX12_brings_80 (by decide) ?_
        exact VE_zret (pc := 81) dX12_brings_81 rfl (Or.inl rfl) rfl rfl
      rw [decide_eq_true c60]
      refine V_iload_n (pc := 63) (i := 2) dX12_brings_63 rfl rfl ?_
      refine V_aload_n (pc := 64) (i := 0) dX12_brings_64 rfl rfl ?_
      refine VW_getR (pc := 65) dX12_brings_65 fX12_64 (by first | assumption | rfl) rfl ?_
      refine V_iload_n (pc := 68) (i := 1) dX12_brings_68 rfl rfl ?_
      refine VW_ialdN (pc := 69) dX12_brings_69 (by first | assumption | rfl) rfl (by omega) (by first | decide | omega) ?_
      refine V_S2i (pc := 70) dX12_brings_70 cX12_263 (X12_isOf (d := 0) _ _) (Nat.le_of_ble_eq_true rfl) (by omega) (Nat.le_of_ble_eq_true rfl) ?_
      refine V_if_ne (pc := 73) 80 dX12_brings_73 rfl (fun c73 => ?_) (fun c73 => ?_)
      · rw [b2i_n0.mp c73]
        refine V_iconst (pc := 80) (v := 0) dX12_brings_80 (by decide) ?_
        exact VE_zret (pc := 81) dX12_brings_81 rfl (Or.inl rfl) rfl rfl
      · rw [b2i_0.mp c73]
        refine V_iconst (pc := 76) (v := 1) dX12_brings_76 (by decide) ?_
        refine V_goto (pc := 77) 81 dX12_brings_77 rfl ?_
        exact VE_zret (pc := 81) dX12_brings_81 rfl (Or.inr rfl) rfl rfl
    refine V_iload_n (pc := 34) (i := 3) dX12_brings_34 rfl rfl ?_
    refine V_aload_n (pc := 35) (i := 0) dX12_brings_35 rfl rfl ?_
    refine VW_getR (pc := 36) dX12_brings_36 fX12_55 (by first | assumption | rfl) rfl ?_
    refine V_iload_n (pc := 39) (i := 1) dX12_brings_39 rfl rfl ?_
    refine VW_ialdN (pc := 40) dX12_brings_40 (by first | assumption | rfl) rfl (by omega) (by first | decide | omega) ?_
    refine V_if_ne (pc := 41) 48 dX12_brings_41 rfl (fun c41 => ?_) (fun c41 => ?_)
    · refine V_iconst (pc := 48) (v := 0) dX12_brings_48 (by decide) ?_
      exact j49 false (by rw [decide_eq_false c41])
    · refine V_iconst (pc := 44) (v := 1) dX12_brings_44 (by decide) ?_
      refine V_goto (pc := 45) 49 dX12_brings_45 rfl ?_
      exact j49 true (by rw [decide_eq_true c41])
  refine V_iload_n (pc := 0) (i := 2) dX12_brings_0 rfl rfl ?_
  refine V_aload_n (pc := 1) (i := 0) dX12_brings_1 rfl rfl ?_
  refine VW_getR (pc := 2) dX12_brings_2 fX12_58 (by first | assumption | rfl) rfl ?_
  refine V_iload_n (pc := 5) (i := 1) dX12_brings_5 rfl rfl ?_
  refine VW_ialdN (pc := 6) dX12_brings_6 (by first | assumption | rfl) rfl (by omega) (by first | decide | omega) ?_
  refine V_iand (pc := 7) dX12_brings_7 ?_
  refine V_aload_n (pc := 8) (i := 0) dX12_brings_8 rfl rfl ?_
  refine VW_getR (pc := 9) dX12_brings_9 fX12_58 (by first | assumption | rfl) rfl ?_
  refine V_iload_n (pc := 12) (i := 1) dX12_brings_12 rfl rfl ?_
  refine VW_ialdN (pc := 13) dX12_brings_13 (by first | assumption | rfl) rfl (by omega) (by first | decide | omega) ?_
  refine V_icmp_ne (pc := 14) 21 dX12_brings_14 rfl (fun c14 => ?_) (fun c14 => ?_)
  · refine V_iconst (pc := 21) (v := 0) dX12_brings_21 (by decide) ?_
    exact fin false (by rw [decide_eq_false c14])
  · refine V_iconst (pc := 17) (v := 1) dX12_brings_17 (by decide) ?_
    refine V_goto (pc := 18) 22 dX12_brings_18 rfl ?_
    exact fin true (by rw [decide_eq_true c14])
/-- the model's first IF that brings something, were dn denied -/
def mF (S : Nat → Nat → Int32) (n : Nat) (dn t : Int32) : Int32 := fst1 (brM (S 10) (S 11) (S 12) (S 9) dn t) n 0
theorem X12_firstOf {n : Nat} (hn : S 3 1 = nI n) (h12 : n ≤ 12) (t : Int32) (hd : 2 ≤ d) : VM G mX12_firstOf d 0 0 [.ref (b + 0), .int t] (xE (some (.int (mF S n (S 0 34) t))) (wH G b tbM S h0)) (wH G b tbM S h0) := by
  refine VM_start (ls := [some (.ref (b + 0)), some (.int t), none]) rfl ?_
  unfold mF
  -- %m X12_firstOf
  refine V_iconst (pc := 0) (v := 0) dX12_firstOf_0 (by decide) ?_
  refine V_istore_n (pc := 1) (i := 2) dX12_firstOf_1 rfl (by decide) rfl ?_
  have loop : ∀ (m i : Nat), m + i = n → V G mX12_firstOf d 0 0 (xE (some (.int (fst1 (brM (S 10) (S 11) (S 12) (S 9) (S 0 34) t) m i))) (wH G b tbM S h0)) 2 [some (.ref (b + 0)), some (.int t), some (.int (nI i))] [] (wH G b tbM S h0) := by
    intro m
    induction m with
    | zero =>
      intro i hm
      refine V_iload_n (pc := 2) (i := 2) dX12_firstOf_2 rfl rfl ?_
      refine V_aload_n (pc := 3) (i := 0) dX12_firstOf_3 rfl rfl ?_
      refine VW_getR (pc := 4) dX12_firstOf_4 fX12_36 (by first | assumption | rfl) rfl ?_
      refine V_iconst (pc := 7) (v := 1) dX12_firstOf_7 (by decide) ?_
      refine VW_ialdN (pc := 8) dX12_firstOf_8 (by first | assumption | rfl) (j := 1) rfl (by decide) (by first | decide | omega) ?_
      refine V_icmp_ge (pc := 9) 29 dX12_firstOf_9 rfl (fun c9 => ?_) (fun c9 => ?_)
      · refine V_iconst (pc := 29) (v := -1) dX12_firstOf_29 (by decide) ?_
        exact VE_iret (pc := 30) dX12_firstOf_30 rfl rfl rfl
      · exact absurd (by rw [hn, show i = n by omega]; exact nI_le (by omega) (by omega)) c9
    | succ m ih =>
      intro i hm
      rw [fst1]
      refine V_iload_n (pc := 2) (i := 2) dX12_firstOf_2 rfl rfl ?_
      refine V_aload_n (pc := 3) (i := 0) dX12_firstOf_3 rfl rfl ?_
      refine VW_getR (pc := 4) dX12_firstOf_4 fX12_36 (by first | assumption | rfl) rfl ?_
      refine V_iconst (pc := 7) (v := 1) dX12_firstOf_7 (by decide) ?_
      refine VW_ialdN (pc := 8) dX12_firstOf_8 (by first | assumption | rfl) (j := 1) rfl (by decide) (by first | decide | omega) ?_
      refine V_icmp_ge (pc := 9) 29 dX12_firstOf_9 rfl (fun c9 => ?_) (fun c9 => ?_)
      · exact absurd c9 (by rw [hn]; exact nI_ge (by omega) (by omega))
      · refine V_aload_n (pc := 12) (i := 0) dX12_firstOf_12 rfl rfl ?_
        refine V_iload_n (pc := 13) (i := 2) dX12_firstOf_13 rfl rfl ?_
        refine V_iload_n (pc := 14) (i := 1) dX12_firstOf_14 rfl rfl ?_
        refine V_V2i (pc := 15) dX12_firstOf_15 cX12_317 (by first | assumption | rfl) (X12_brings (d := 1) (by omega) _ (by omega)) (Nat.le_of_ble_eq_true rfl) (by omega) (Nat.le_of_ble_eq_true rfl) ?_
        refine V_if_eq (pc := 18) 23 dX12_firstOf_18 rfl (fun c18 => ?_) (fun c18 => ?_)
        · rw [if_neg (by rw [b2i_0.mp c18]; decide)]
          refine V_iinc (pc := 23) dX12_firstOf_23 (by decide) rfl rfl (iincN (n := 1) (by decide)) ?_
          refine V_goto (pc := 26) 2 dX12_firstOf_26 rfl ?_
          exact ih (i + 1) (by omega)
        · rw [if_pos (b2i_n0.mp c18)]
          refine V_iload_n (pc := 21) (i := 2) dX12_firstOf_21 rfl rfl ?_
          exact VE_iret (pc := 22) dX12_firstOf_22 rfl rfl rfl
  exact loop n 0 rfl
/-- how many of the ten THINGS are in x -/
def cnt10 (x : Int32) : Nat := (bt x 0).toNat + (bt x 1).toNat + (bt x 2).toNat + (bt x 3).toNat + (bt x 4).toNat + (bt x 5).toNat + (bt x 6).toNat + (bt x 7).toNat + (bt x 8).toNat + (bt x 9).toNat
theorem cnt10_or {x : Int32} {g : Nat} (hg : g < 10) (h : bt x g = false) : cnt10 (x ||| 1 <<< (nI g &&& 31)) = cnt10 x + 1 := by
  have hb : ∀ j, j < 10 → bt (x ||| 1 <<< (nI g &&& 31)) j = (bt x j || decide (j = g)) := fun j hj => by rw [b_or, b_shl1 (by omega) (by omega)]
  unfold cnt10
  rw [hb 0 (by decide), hb 1 (by decide), hb 2 (by decide), hb 3 (by decide), hb 4 (by decide), hb 5 (by decide), hb 6 (by decide), hb 7 (by decide), hb 8 (by decide), hb 9 (by decide)]
  rcases (show g = 0 ∨ g = 1 ∨ g = 2 ∨ g = 3 ∨ g = 4 ∨ g = 5 ∨ g = 6 ∨ g = 7 ∨ g = 8 ∨ g = 9 by omega) with e | e | e | e | e | e | e | e | e | e <;> subst e <;> simp [h] <;> omega
theorem cnt10_full {x : Int32} (h : 10 ≤ cnt10 x) {g : Nat} (hg : g < 10) : bt x g = true := by
  have hle : ∀ y : Bool, y.toNat ≤ 1 := fun y => by cases y <;> decide
  have k0 := hle (bt x 0); have k1 := hle (bt x 1); have k2 := hle (bt x 2); have k3 := hle (bt x 3); have k4 := hle (bt x 4)
  have k5 := hle (bt x 5); have k6 := hle (bt x 6); have k7 := hle (bt x 7); have k8 := hle (bt x 8); have k9 := hle (bt x 9)
  unfold cnt10 at h
  have one : ∀ y : Bool, y.toNat = 1 → y = true := fun y => by cases y <;> decide
  rcases (show g = 0 ∨ g = 1 ∨ g = 2 ∨ g = 3 ∨ g = 4 ∨ g = 5 ∨ g = 6 ∨ g = 7 ∨ g = 8 ∨ g = 9 by omega) with e | e | e | e | e | e | e | e | e | e <;> subst e <;> exact one _ (by omega)
theorem mF_cases {n : Nat} {dn t : Int32} : mF S n dn t = -1 ∨ ∃ j, j < n ∧ mF S n dn t = nI j ∧ brM (S 10) (S 11) (S 12) (S 9) dn t j = true := by
  rcases fst1_lt (P := brM (S 10) (S 11) (S 12) (S 9) dn t) n 0 with h1 | ⟨j, h0, h2, h3, h4⟩
  · exact Or.inl h1
  · exact Or.inr ⟨j, by omega, h3, h4⟩
theorem brM_g {nd br gv kd : Nat → Int32} {dn t : Int32} {i : Nat} (h : brM nd br gv kd dn t i = true) : hasB t (gv i) = false := by
  unfold brM at h
  simp only [Bool.and_eq_true, Bool.not_eq_true'] at h
  exact h.2
theorem X12_come {n : Nat} (hn : S 3 1 = nI n) (h12 : n ≤ 12) (hg : GvOk (S 12) n) (t : Int32) (hd : 3 ≤ d) : VM G mX12_come d 0 0 [.ref (b + 0), .int t] (xE (some (.int (allF (mF S n (S 0 34)) (S 12) 10 t))) (wH G b tbM S h0)) (wH G b tbM S h0) := by
  refine VM_start (ls := [some (.ref (b + 0)), some (.int t), none, none]) rfl ?_
  -- %m X12_come
  refine V_iload_n (pc := 0) (i := 1) dX12_come_0 rfl rfl ?_
  refine V_istore_n (pc := 1) (i := 2) dX12_come_1 rfl (by decide) rfl ?_
  refine V_aload_n (pc := 2) (i := 0) dX12_come_2 rfl rfl ?_
  refine V_iload_n (pc := 3) (i := 2) dX12_come_3 rfl rfl ?_
  refine V_V1i (pc := 4) dX12_come_4 cX12_320 (by first | assumption | rfl) (X12_firstOf (d := 2) hn h12 _ (by omega)) (Nat.le_of_ble_eq_true rfl) (by omega) (Nat.le_of_ble_eq_true rfl) ?_
  refine V_istore_n (pc := 7) (i := 3) dX12_come_7 rfl (by decide) rfl ?_
  have loop : ∀ (m : Nat) (x : Int32), 10 ≤ m + cnt10 x → V G mX12_come d 0 0 (xE (some (.int (allF (mF S n (S 0 34)) (S 12) m x))) (wH G b tbM S h0)) 8 [some (.ref (b + 0)), some (.int t), some (.int x), some (.int (mF S n (S 0 34) x))] [] (wH G b tbM S h0) := by
    intro m
    induction m with
    | zero =>
      intro x hm
      have e : mF S n (S 0 34) x = -1 := by
        rcases mF_cases (S := S) (n := n) (dn := S 0 34) (t := x) with h | ⟨j, hj, -, h4⟩
        · exact h
        · obtain ⟨g, hg1, eg⟩ := hg j hj
          have := brM_g h4
          rw [eg, hasB_bt (by omega), cnt10_full (by omega) hg1] at this
          cases this
      rw [e]
      refine V_iload_n (pc := 8) (i := 3) dX12_come_8 rfl rfl ?_
      refine V_iconst (pc := 9) (v := -1) dX12_come_9 (by decide) ?_
      refine V_icmp_eq (pc := 10) 33 dX12_come_10 rfl (fun c10 => ?_) (fun c10 => ?_)
      · refine V_iload_n (pc := 33) (i := 2) dX12_come_33 rfl rfl ?_
        exact VE_iret (pc := 34) dX12_come_34 rfl rfl rfl
      · exact absurd rfl c10
    | succ m ih =>
      intro x hm
      rw [allF]
      refine V_iload_n (pc := 8) (i := 3) dX12_come_8 rfl rfl ?_
      refine V_iconst (pc := 9) (v := -1) dX12_come_9 (by decide) ?_
      refine V_icmp_eq (pc := 10) 33 dX12_come_10 rfl (fun c10 => ?_) (fun c10 => ?_)
      · rw [if_pos c10]
        refine V_iload_n (pc := 33) (i := 2) dX12_come_33 rfl rfl ?_
        exact VE_iret (pc := 34) dX12_come_34 rfl rfl rfl
      · rw [if_neg c10]
        obtain ⟨j, hj, ej, h4⟩ := (mF_cases (S := S) (n := n) (dn := S 0 34) (t := x)).resolve_left c10
        obtain ⟨g, hg1, eg⟩ := hg j hj
        have hx := brM_g h4
        rw [eg, hasB_bt (by omega)] at hx
        rw [ej, nI_clamp (by omega), eg]
        refine V_iload_n (pc := 13) (i := 2) dX12_come_13 rfl rfl ?_
        refine V_iconst (pc := 14) (v := 1) dX12_come_14 (by decide) ?_
        refine V_aload_n (pc := 15) (i := 0) dX12_come_15 rfl rfl ?_
        refine VW_getR (pc := 16) dX12_come_16 fX12_64 (by first | assumption | rfl) rfl ?_
        refine V_iload_n (pc := 19) (i := 3) dX12_come_19 rfl rfl ?_
        refine VW_ialdN (pc := 20) dX12_come_20 (by first | assumption | rfl) rfl (by omega) (by first | decide | omega) ?_
        rw [eg]
        refine V_ishl (pc := 21) dX12_come_21 ?_
        refine V_ior (pc := 22) dX12_come_22 ?_
        refine V_istore_n (pc := 23) (i := 2) dX12_come_23 rfl (by decide) rfl ?_
        refine V_aload_n (pc := 24) (i := 0) dX12_come_24 rfl rfl ?_
        refine V_iload_n (pc := 25) (i := 2) dX12_come_25 rfl rfl ?_
        refine V_V1i (pc := 26) dX12_come_26 cX12_320 (by first | assumption | rfl) (X12_firstOf (d := 2) hn h12 _ (by omega)) (Nat.le_of_ble_eq_true rfl) (by omega) (Nat.le_of_ble_eq_true rfl) ?_
        refine V_istore_n (pc := 29) (i := 3) dX12_come_29 rfl (by decide) rfl ?_
        refine V_goto (pc := 30) 8 dX12_come_30 rfl ?_
        exact ih _ (by rw [cnt10_or hg1 hx]; omega)
  exact loop 10 t (by omega)
/-- THERE, and on the further bank, by the model's rows -/
def mThere (S : Nat → Nat → Int32) (n q : Nat) : Int32 := allF (mF S n (S 0 34)) (S 12) 10 (S 16 q ||| 1 <<< (S 17 q &&& 31))
def mSpare (S : Nat → Nat → Int32) (n q : Nat) : Int32 := allF (mF S n (S 0 34)) (S 12) 10 (S 16 q &&& (1 <<< (S 7 q &&& 31) ^^^ -1))
theorem X12_thereOf {n q : Nat} (hn : S 3 1 = nI n) (h12 : n ≤ 12) (hg : GvOk (S 12) n) (hq : q < 8) (hd : 4 ≤ d) : VM G mX12_thereOf d 0 0 [.ref (b + 0), .int (nI q)] (xE (some (.int (mThere S n q))) (wH G b tbM S h0)) (wH G b tbM S h0) := by
  refine VM_start (ls := [some (.ref (b + 0)), some (.int (nI q))]) rfl ?_
  -- %m X12_thereOf
  refine V_aload_n (pc := 0) (i := 0) dX12_thereOf_0 rfl rfl ?_
  refine V_aload_n (pc := 1) (i := 0) dX12_thereOf_1 rfl rfl ?_
  refine VW_getR (pc := 2) dX12_thereOf_2 fX12_80 (by first | assumption | rfl) rfl ?_
  refine V_iload_n (pc := 5) (i := 1) dX12_thereOf_5 rfl rfl ?_
  refine VW_ialdN (pc := 6) dX12_thereOf_6 (by first | assumption | rfl) rfl (by omega) (by first | decide | omega) ?_
  refine V_iconst (pc := 7) (v := 1) dX12_thereOf_7 (by decide) ?_
  refine V_aload_n (pc := 8) (i := 0) dX12_thereOf_8 rfl rfl ?_
  refine VW_getR (pc := 9) dX12_thereOf_9 fX12_83 (by first | assumption | rfl) rfl ?_
  refine V_iload_n (pc := 12) (i := 1) dX12_thereOf_12 rfl rfl ?_
  refine VW_ialdN (pc := 13) dX12_thereOf_13 (by first | assumption | rfl) rfl (by omega) (by first | decide | omega) ?_
  refine V_ishl (pc := 14) dX12_thereOf_14 ?_
  refine V_ior (pc := 15) dX12_thereOf_15 ?_
  refine V_V1i (pc := 16) dX12_thereOf_16 cX12_323 (by first | assumption | rfl) (X12_come (d := 3) hn h12 hg _ (by omega)) (Nat.le_of_ble_eq_true rfl) (by omega) (Nat.le_of_ble_eq_true rfl) ?_
  exact VE_iret (pc := 19) dX12_thereOf_19 rfl rfl rfl
theorem X12_sparedOf {n q : Nat} (hn : S 3 1 = nI n) (h12 : n ≤ 12) (hg : GvOk (S 12) n) (hq : q < 8) (hd : 4 ≤ d) : VM G mX12_sparedOf d 0 0 [.ref (b + 0), .int (nI q)] (xE (some (.int (mSpare S n q))) (wH G b tbM S h0)) (wH G b tbM S h0) := by
  refine VM_start (ls := [some (.ref (b + 0)), some (.int (nI q))]) rfl ?_
  -- %m X12_sparedOf
  refine V_aload_n (pc := 0) (i := 0) dX12_sparedOf_0 rfl rfl ?_
  refine V_aload_n (pc := 1) (i := 0) dX12_sparedOf_1 rfl rfl ?_
  refine VW_getR (pc := 2) dX12_sparedOf_2 fX12_80 (by first | assumption | rfl) rfl ?_
  refine V_iload_n (pc := 5) (i := 1) dX12_sparedOf_5 rfl rfl ?_
  refine VW_ialdN (pc := 6) dX12_sparedOf_6 (by first | assumption | rfl) rfl (by omega) (by first | decide | omega) ?_
  refine V_iconst (pc := 7) (v := 1) dX12_sparedOf_7 (by decide) ?_
  refine V_aload_n (pc := 8) (i := 0) dX12_sparedOf_8 rfl rfl ?_
  refine VW_getR (pc := 9) dX12_sparedOf_9 fX12_49 (by first | assumption | rfl) rfl ?_
  refine V_iload_n (pc := 12) (i := 1) dX12_sparedOf_12 rfl rfl ?_
  refine VW_ialdN (pc := 13) dX12_sparedOf_13 (by first | assumption | rfl) rfl (by omega) (by first | decide | omega) ?_
  refine V_ishl (pc := 14) dX12_sparedOf_14 ?_
  refine V_iconst (pc := 15) (v := -1) dX12_sparedOf_15 (by decide) ?_
  refine V_ixor (pc := 16) dX12_sparedOf_16 ?_
  refine V_iand (pc := 17) dX12_sparedOf_17 ?_
  refine V_V1i (pc := 18) dX12_sparedOf_18 cX12_323 (by first | assumption | rfl) (X12_come (d := 3) hn h12 hg _ (by omega)) (Nat.le_of_ble_eq_true rfl) (by omega) (Nat.le_of_ble_eq_true rfl) ?_
  exact VE_iret (pc := 21) dX12_sparedOf_21 rfl rfl rfl
theorem X12_worthOf (t : Int32) (hd : 1 ≤ d) : VM G mX12_worthOf d 0 0 [.ref (b + 0), .int t] (xE (some (.int (sumB (S 4) t 10 0 0))) (wH G b tbM S h0)) (wH G b tbM S h0) := by
  refine VM_start (ls := [some (.ref (b + 0)), some (.int t), none, none]) rfl ?_
  -- %m X12_worthOf
  refine V_iconst (pc := 0) (v := 0) dX12_worthOf_0 (by decide) ?_
  refine V_istore_n (pc := 1) (i := 2) dX12_worthOf_1 rfl (by decide) rfl ?_
  refine V_iconst (pc := 2) (v := 0) dX12_worthOf_2 (by decide) ?_
  refine V_istore_n (pc := 3) (i := 3) dX12_worthOf_3 rfl (by decide) rfl ?_
  have loop : ∀ (m i : Nat) (x : Int32), m + i = 10 → V G mX12_worthOf d 0 0 (xE (some (.int (sumB (S 4) t m i x))) (wH G b tbM S h0)) 4 [some (.ref (b + 0)), some (.int t), some (.int x), some (.int (nI i))] [] (wH G b tbM S h0) := by
    intro m
    induction m with
    | zero =>
      intro i x hm
      refine V_iload_n (pc := 4) (i := 3) dX12_worthOf_4 rfl rfl ?_
      refine V_bipush (pc := 5) (v := 10) dX12_worthOf_5 (by decide) ?_
      refine V_icmp_ge (pc := 7) 37 dX12_worthOf_7 rfl (fun c7 => ?_) (fun c7 => ?_)
      · refine V_iload_n (pc := 37) (i := 2) dX12_worthOf_37 rfl rfl ?_
        exact VE_iret (pc := 38) dX12_worthOf_38 rfl rfl rfl
      · exact absurd (by rw [show i = 10 by omega]; decide) c7
    | succ m ih =>
      intro i x hm
      rw [sumB]
      refine V_iload_n (pc := 4) (i := 3) dX12_worthOf_4 rfl rfl ?_
      refine V_bipush (pc := 5) (v := 10) dX12_worthOf_5 (by decide) ?_
      refine V_icmp_ge (pc := 7) 37 dX12_worthOf_7 rfl (fun c7 => ?_) (fun c7 => ?_)
      · exact absurd c7 (nI_ge (b := 10) (by omega) (by decide))
      · refine V_iload_n (pc := 10) (i := 2) dX12_worthOf_10 rfl rfl ?_
        refine V_iload_n (pc := 11) (i := 1) dX12_worthOf_11 rfl rfl ?_
        refine V_iload_n (pc := 12) (i := 3) dX12_worthOf_12 rfl rfl ?_
        refine V_S2i (pc := 13) dX12_worthOf_13 cX12_263 (X12_isOf (d := 0) _ _) (Nat.le_of_ble_eq_true rfl) (by omega) (Nat.le_of_ble_eq_true rfl) ?_
        refine V_if_eq (pc := 16) 28 dX12_worthOf_16 rfl (fun c16 => ?_) (fun c16 => ?_)
        · rw [if_neg (by rw [b2i_0.mp c16]; decide)]
          refine V_iconst (pc := 28) (v := 0) dX12_worthOf_28 (by decide) ?_
          refine V_iadd (pc := 29) dX12_worthOf_29 ?_
          (first | rw [Int32.add_zero] | skip)
          refine V_istore_n (pc := 30) (i := 2) dX12_worthOf_30 rfl (by decide) rfl ?_
          refine V_iinc (pc := 31) dX12_worthOf_31 (by decide) rfl rfl (iincN (n := 1) (by decide)) ?_
          refine V_goto (pc := 34) 4 dX12_worthOf_34 rfl ?_
          exact ih (i + 1) _ (by omega)
        · rw [if_pos (b2i_n0.mp c16)]
          refine V_aload_n (pc := 19) (i := 0) dX12_worthOf_19 rfl rfl ?_
          refine VW_getR (pc := 20) dX12_worthOf_20 fX12_40 (by first | assumption | rfl) rfl ?_
          refine V_iload_n (pc := 23) (i := 3) dX12_worthOf_23 rfl rfl ?_
          refine VW_ialdN (pc := 24) dX12_worthOf_24 (by first | assumption | rfl) rfl (by omega) (by first | decide | omega) ?_
          refine V_goto (pc := 25) 29 dX12_worthOf_25 rfl ?_
          refine V_iadd (pc := 29) dX12_worthOf_29 ?_
          (first | rw [Int32.add_zero] | skip)
          refine V_istore_n (pc := 30) (i := 2) dX12_worthOf_30 rfl (by decide) rfl ?_
          refine V_iinc (pc := 31) dX12_worthOf_31 (by decide) rfl rfl (iincN (n := 1) (by decide)) ?_
          refine V_goto (pc := 34) 4 dX12_worthOf_34 rfl ?_
          exact ih (i + 1) _ (by omega)
  exact loop 10 0 0 rfl
end M2
