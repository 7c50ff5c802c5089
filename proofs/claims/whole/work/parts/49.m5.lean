/-! ===== the model: the rule, who wants to cross, a SUNDAY ===== -/
section M5
variable {G : xG} {d : Nat} {b : Nat} {S U : Nat → Nat → Int32} {h0 h : xH}
def mApp (o x y : Int32) : Int32 :=
  if o = -20 then x + y else if o = -21 then x - y else if o = -22 then x * y else if o = -23 then (if y = 0 then 0 else x / y) else
  if o = -24 then (if x < y then 1 else 0) else if o = -25 then (if x = y then 1 else 0) else if o = -26 then (if ¬ x = 0 ∧ ¬ y = 0 then 1 else 0) else (if ¬ x = 0 ∨ ¬ y = 0 then 1 else 0)
theorem X12_reckon (o x y : Int32) : VM G mX12_reckon d 0 0 [.int o, .int x, .int y] (xE (some (.int (mApp o x y))) h) h := by
  refine VM_start (ls := [some (.int o), some (.int x), some (.int y)]) rfl ?_
  unfold mApp
  -- %m X12_reckon
  refine V_iload_n (pc := 0) (i := 0) dX12_reckon_0 rfl rfl ?_
  by_cases e1 : o = -20
  · subst e1
    rw [if_pos rfl]
    refine V_tableIn (pc := 1) (off := 43) 44 dX12_reckon_1 (by decide) (by decide) (by decide) rfl ?_
    refine V_iload_n (pc := 44) (i := 1) dX12_reckon_44 rfl rfl ?_
    refine V_iload_n (pc := 45) (i := 2) dX12_reckon_45 rfl rfl ?_
    refine V_iadd (pc := 46) dX12_reckon_46 ?_
    exact VE_iret (pc := 47) dX12_reckon_47 rfl rfl rfl
  rw [if_neg e1]
  by_cases e2 : o = -21
  · subst e2
    rw [if_pos rfl]
    refine V_tableIn (pc := 1) (off := 47) 48 dX12_reckon_1 (by decide) (by decide) (by decide) rfl ?_
    refine V_iload_n (pc := 48) (i := 1) dX12_reckon_48 rfl rfl ?_
    refine V_iload_n (pc := 49) (i := 2) dX12_reckon_49 rfl rfl ?_
    refine V_isub (pc := 50) dX12_reckon_50 ?_
    exact VE_iret (pc := 51) dX12_reckon_51 rfl rfl rfl
  rw [if_neg e2]
  by_cases e3 : o = -22
  · subst e3
    rw [if_pos rfl]
    refine V_tableIn (pc := 1) (off := 51) 52 dX12_reckon_1 (by decide) (by decide) (by decide) rfl ?_
    refine V_iload_n (pc := 52) (i := 1) dX12_reckon_52 rfl rfl ?_
    refine V_iload_n (pc := 53) (i := 2) dX12_reckon_53 rfl rfl ?_
    refine V_imul (pc := 54) dX12_reckon_54 ?_
    exact VE_iret (pc := 55) dX12_reckon_55 rfl rfl rfl
  rw [if_neg e3]
  by_cases e4 : o = -23
  · subst e4
    rw [if_pos rfl]
    refine V_tableIn (pc := 1) (off := 55) 56 dX12_reckon_1 (by decide) (by decide) (by decide) rfl ?_
    refine V_iload_n (pc := 56) (i := 2) dX12_reckon_56 rfl rfl ?_
    refine V_if_ne (pc := 57) 64 dX12_reckon_57 rfl (fun c57 => ?_) (fun c57 => ?_)
    · rw [if_neg c57]
      refine V_iload_n (pc := 64) (i := 1) dX12_reckon_64 rfl rfl ?_
      refine V_iload_n (pc := 65) (i := 2) dX12_reckon_65 rfl rfl ?_
      refine V_idiv (pc := 66) dX12_reckon_66 c57 ?_
      exact VE_iret (pc := 67) dX12_reckon_67 rfl rfl rfl
    · rw [if_pos c57]
      refine V_iconst (pc := 60) (v := 0) dX12_reckon_60 (by decide) ?_
      refine V_goto (pc := 61) 67 dX12_reckon_61 rfl ?_
      exact VE_iret (pc := 67) dX12_reckon_67 rfl rfl rfl
  rw [if_neg e4]
  by_cases e5 : o = -24
  · subst e5
    rw [if_pos rfl]
    refine V_tableIn (pc := 1) (off := 67) 68 dX12_reckon_1 (by decide) (by decide) (by decide) rfl ?_
    refine V_iload_n (pc := 68) (i := 1) dX12_reckon_68 rfl rfl ?_
    refine V_iload_n (pc := 69) (i := 2) dX12_reckon_69 rfl rfl ?_
    refine V_icmp_ge (pc := 70) 77 dX12_reckon_70 rfl (fun c70 => ?_) (fun c70 => ?_)
    · rw [if_neg (Int32.not_lt.mpr c70)]
      refine V_iconst (pc := 77) (v := 0) dX12_reckon_77 (by decide) ?_
      exact VE_iret (pc := 78) dX12_reckon_78 rfl rfl rfl
    · rw [if_pos (Int32.not_le.mp c70)]
      refine V_iconst (pc := 73) (v := 1) dX12_reckon_73 (by decide) ?_
      refine V_goto (pc := 74) 78 dX12_reckon_74 rfl ?_
      exact VE_iret (pc := 78) dX12_reckon_78 rfl rfl rfl
  rw [if_neg e5]
  by_cases e6 : o = -25
  · subst e6
    rw [if_pos rfl]
    refine V_tableIn (pc := 1) (off := 78) 79 dX12_reckon_1 (by decide) (by decide) (by decide) rfl ?_
    refine V_iload_n (pc := 79) (i := 1) dX12_reckon_79 rfl rfl ?_
    refine V_iload_n (pc := 80) (i := 2) dX12_reckon_80 rfl rfl ?_
    refine V_icmp_ne (pc := 81) 88 dX12_reckon_81 rfl (fun c81 => ?_) (fun c81 => ?_)
    · refine V_iconst (pc := 88) (v := 0) dX12_reckon_88 (by decide) ?_
      exact VE_iret (pc := 89) dX12_reckon_89 rfl (by simp [*]) rfl
    · refine V_iconst (pc := 84) (v := 1) dX12_reckon_84 (by decide) ?_
      refine V_goto (pc := 85) 89 dX12_reckon_85 rfl ?_
      exact VE_iret (pc := 89) dX12_reckon_89 rfl (by simp [*]) rfl
  rw [if_neg e6]
  by_cases e7 : o = -26
  · subst e7
    rw [if_pos rfl]
    refine V_tableIn (pc := 1) (off := 89) 90 dX12_reckon_1 (by decide) (by decide) (by decide) rfl ?_
    refine V_iload_n (pc := 90) (i := 1) dX12_reckon_90 rfl rfl ?_
    refine V_if_eq (pc := 91) 102 dX12_reckon_91 rfl (fun c91 => ?_) (fun c91 => ?_)
    · refine V_iconst (pc := 102) (v := 0) dX12_reckon_102 (by decide) ?_
      exact VE_iret (pc := 103) dX12_reckon_103 rfl (by simp [*]) rfl
    · refine V_iload_n (pc := 94) (i := 2) dX12_reckon_94 rfl rfl ?_
      refine V_if_eq (pc := 95) 102 dX12_reckon_95 rfl (fun c95 => ?_) (fun c95 => ?_)
      · refine V_iconst (pc := 102) (v := 0) dX12_reckon_102 (by decide) ?_
        exact VE_iret (pc := 103) dX12_reckon_103 rfl (by simp [*]) rfl
      · refine V_iconst (pc := 98) (v := 1) dX12_reckon_98 (by decide) ?_
        refine V_goto (pc := 99) 103 dX12_reckon_99 rfl ?_
        exact VE_iret (pc := 103) dX12_reckon_103 rfl (by simp [*]) rfl
  rw [if_neg e7]
  have hout : o.toInt < -26 ∨ -20 < o.toInt := by
    have z1 := lv_neT e1 (a := -20) (by decide)
    have z2 := lv_neT e2 (a := -21) (by decide)
    have z3 := lv_neT e3 (a := -22) (by decide)
    have z4 := lv_neT e4 (a := -23) (by decide)
    have z5 := lv_neT e5 (a := -24) (by decide)
    have z6 := lv_neT e6 (a := -25) (by decide)
    have z7 := lv_neT e7 (a := -26) (by decide)
    omega
  refine V_tableOut (pc := 1) 104 dX12_reckon_1 hout rfl ?_
  refine V_iload_n (pc := 104) (i := 1) dX12_reckon_104 rfl rfl ?_
  refine V_if_ne (pc := 105) 112 dX12_reckon_105 rfl (fun c105 => ?_) (fun c105 => ?_)
  · refine V_iconst (pc := 112) (v := 1) dX12_reckon_112 (by decide) ?_
    refine V_goto (pc := 113) 117 dX12_reckon_113 rfl ?_
    exact VE_iret (pc := 117) dX12_reckon_117 rfl (by simp [*]) rfl
  · refine V_iload_n (pc := 108) (i := 2) dX12_reckon_108 rfl rfl ?_
    refine V_if_eq (pc := 109) 116 dX12_reckon_109 rfl (fun c109 => ?_) (fun c109 => ?_)
    · refine V_iconst (pc := 116) (v := 0) dX12_reckon_116 (by decide) ?_
      exact VE_iret (pc := 117) dX12_reckon_117 rfl (by simp [*]) rfl
    · refine V_iconst (pc := 112) (v := 1) dX12_reckon_112 (by decide) ?_
      refine V_goto (pc := 113) 117 dX12_reckon_113 rfl ?_
      exact VE_iret (pc := 117) dX12_reckon_117 rfl (by simp [*]) rfl
/-- the rule by the model's signs: m from i on, n on the stack f -/
def rkM (cd vl : Nat → Int32) : Nat → Nat → Nat → (Nat → Int32) → Nat → Int32
  | 0, _, _, f => f
  | m + 1, i, n, f =>
    if cd i ≤ -20 then (if cd i = -28 then rkM cd vl m (i + 1) n (upd f (n - 1) (if f (n - 1) = 0 then 1 else 0)) else rkM cd vl m (i + 1) (n - 1) (upd f (n - 2) (mApp (cd i) (f (n - 2)) (f (n - 1)))))
    else rkM cd vl m (i + 1) (n + 1) (upd f n (if cd i < 0 then vl (-1 - cd i).toNatClampNeg else cd i))
/-- the signs are a rule: n on the stack, never too many, never too few, one at the end -/
def wfC (cd : Nat → Int32) : Nat → Nat → Nat → Prop
  | 0, _, n => n = 1
  | m + 1, i, n => if cd i ≤ -20 then (if cd i = -28 then 1 ≤ n ∧ wfC cd m (i + 1) n else 2 ≤ n ∧ wfC cd m (i + 1) (n - 1)) else -7 ≤ cd i ∧ n < 64 ∧ wfC cd m (i + 1) (n + 1)
theorem in7 {x : Int32} (h1 : x < 0) (h2 : -7 ≤ x) : vp_in (-1 - x) 7 := by
  obtain ⟨j, hj, e⟩ : ∃ j : Nat, j < 7 ∧ -1 - x = nI j := by
    have a1 := Int32.lt_iff_toInt_lt.mp h1
    have a2 := Int32.le_iff_toInt_le.mp h2
    have q1 : (0 : Int32).toInt = 0 := by decide
    have q2 : (-7 : Int32).toInt = -7 := by decide
    have e : x = Int32.ofInt x.toInt := (Int32.ofInt_toInt x).symm
    rw [q1] at a1
    rw [q2] at a2
    generalize x.toInt = z at a1 a2 e
    rcases (show z = -1 ∨ z = -2 ∨ z = -3 ∨ z = -4 ∨ z = -5 ∨ z = -6 ∨ z = -7 by omega) with q | q | q | q | q | q | q <;> subst q <;> subst e
    · exact ⟨0, by decide, by decide⟩
    · exact ⟨1, by decide, by decide⟩
    · exact ⟨2, by decide, by decide⟩
    · exact ⟨3, by decide, by decide⟩
    · exact ⟨4, by decide, by decide⟩
    · exact ⟨5, by decide, by decide⟩
    · exact ⟨6, by decide, by decide⟩
  rw [e]
  exact vp_in_nI hj (by decide)
theorem X12_valueNow {r : Nat} (hr : S 3 3 = nI r) (h7 : r ≤ 700) (hw : wfC (S 13) r 0 0) (hb : gB G ≤ b) (hd : 1 ≤ d) : VM G mX12_valueNow d 0 0 [.ref (b + 0)] (xE (some (.int (rkM (S 13) (S 21) r 0 0 (S 22) 0))) (wH G b tbM (upR S 22 (rkM (S 13) (S 21) r 0 0 (S 22))) h0)) (wH G b tbM S h0) := by
  refine VM_start (ls := [some (.ref (b + 0)), none, none, none]) rfl ?_
  -- %m X12_valueNow
  refine V_iconst (pc := 0) (v := 0) dX12_valueNow_0 (by decide) ?_
  refine V_istore_n (pc := 1) (i := 1) dX12_valueNow_1 rfl (by decide) rfl ?_
  refine V_iconst (pc := 2) (v := 0) dX12_valueNow_2 (by decide) ?_
  refine V_istore_n (pc := 3) (i := 2) dX12_valueNow_3 rfl (by decide) rfl ?_
  have loop : ∀ (m i t : Nat) (f : Nat → Int32), m + i = r → t ≤ 64 → wfC (S 13) m i t → V G mX12_valueNow d 0 0 (xE (some (.int (rkM (S 13) (S 21) m i t f 0))) (wH G b tbM (upR S 22 (rkM (S 13) (S 21) m i t f)) h0)) 4 [some (.ref (b + 0)), some (.int (nI t)), some (.int (nI i)), none] [] (wH G b tbM (upR S 22 f) h0) := by
    intro m
    induction m with
    | zero =>
      intro i t f hm ht hw
      refine V_iload_n (pc := 4) (i := 2) dX12_valueNow_4 rfl rfl ?_
      refine V_aload_n (pc := 5) (i := 0) dX12_valueNow_5 rfl rfl ?_
      refine VW_getR (pc := 6) dX12_valueNow_6 fX12_36 (by first | assumption | rfl) rfl ?_
      refine V_iconst (pc := 9) (v := 3) dX12_valueNow_9 (by decide) ?_
      refine VW_ialdN (pc := 10) dX12_valueNow_10 (by first | assumption | rfl) (j := 3) rfl (by decide) (by first | decide | omega) ?_
      rw [upR_row (by decide)]
      refine V_icmp_ge (pc := 11) 123 dX12_valueNow_11 rfl (fun c11 => ?_) (fun c11 => ?_)
      · refine V_aload_n (pc := 123) (i := 0) dX12_valueNow_123 rfl rfl ?_
        refine VW_getR (pc := 124) dX12_valueNow_124 fX12_96 (by first | assumption | rfl) rfl ?_
        refine V_iconst (pc := 127) (v := 0) dX12_valueNow_127 (by decide) ?_
        refine VW_ialdN (pc := 128) dX12_valueNow_128 (by first | assumption | rfl) (j := 0) rfl (by decide) (by first | decide | omega) ?_
        rw [upR_same]
        exact VE_iret (pc := 129) dX12_valueNow_129 rfl rfl rfl
      · exact absurd (by rw [hr, show i = r by omega]; exact nI_le (by omega) (by omega)) c11
    | succ m ih =>
      intro i t f hm ht hw
      have hi : i < 700 := by omega
      rw [rkM]
      rw [wfC] at hw
      refine V_iload_n (pc := 4) (i := 2) dX12_valueNow_4 rfl rfl ?_
      refine V_aload_n (pc := 5) (i := 0) dX12_valueNow_5 rfl rfl ?_
      refine VW_getR (pc := 6) dX12_valueNow_6 fX12_36 (by first | assumption | rfl) rfl ?_
      refine V_iconst (pc := 9) (v := 3) dX12_valueNow_9 (by decide) ?_
      refine VW_ialdN (pc := 10) dX12_valueNow_10 (by first | assumption | rfl) (j := 3) rfl (by decide) (by first | decide | omega) ?_
      rw [upR_row (by decide)]
      refine V_icmp_ge (pc := 11) 123 dX12_valueNow_11 rfl (fun c11 => ?_) (fun c11 => ?_)
      · exact absurd c11 (by rw [hr]; exact nI_ge (by omega) (by omega))
      · refine V_aload_n (pc := 14) (i := 0) dX12_valueNow_14 rfl rfl ?_
        refine VW_getR (pc := 15) dX12_valueNow_15 fX12_67 (by first | assumption | rfl) rfl ?_
        refine V_iload_n (pc := 18) (i := 2) dX12_valueNow_18 rfl rfl ?_
        refine VW_ialdN (pc := 19) dX12_valueNow_19 (by first | assumption | rfl) rfl (by omega) (by first | decide | omega) ?_
        rw [upR_row (by decide)]
        refine V_istore_n (pc := 20) (i := 3) dX12_valueNow_20 rfl (by decide) rfl ?_
        refine V_iload_n (pc := 21) (i := 3) dX12_valueNow_21 rfl rfl ?_
        refine V_bipush (pc := 22) (v := -20) dX12_valueNow_22 (by decide) ?_
        refine V_icmp_le (pc := 24) 55 dX12_valueNow_24 rfl (fun c24 => ?_) (fun c24 => ?_)
        · rw [if_pos c24]
          rw [if_pos c24] at hw
          refine V_iload_n (pc := 55) (i := 3) dX12_valueNow_55 rfl rfl ?_
          refine V_bipush (pc := 56) (v := -28) dX12_valueNow_56 (by decide) ?_
          refine V_icmp_ne (pc := 58) 88 dX12_valueNow_58 rfl (fun c58 => ?_) (fun c58 => ?_)
          · rw [if_neg c58]
            rw [if_neg c58] at hw
            obtain ⟨w1, w3⟩ := hw
            refine V_iinc (pc := 88) dX12_valueNow_88 (by decide) rfl rfl (dec1 (by omega)) ?_
            refine V_aload_n (pc := 91) (i := 0) dX12_valueNow_91 rfl rfl ?_
            refine VW_getR (pc := 92) dX12_valueNow_92 fX12_96 (by first | assumption | rfl) rfl ?_
            refine V_iload_n (pc := 95) (i := 1) dX12_valueNow_95 rfl rfl ?_
            refine V_iconst (pc := 96) (v := 1) dX12_valueNow_96 (by decide) ?_
            refine V_isub (pc := 97) dX12_valueNow_97 ?_
            refine V_iload_n (pc := 98) (i := 3) dX12_valueNow_98 rfl rfl ?_
            refine V_aload_n (pc := 99) (i := 0) dX12_valueNow_99 rfl rfl ?_
            refine VW_getR (pc := 100) dX12_valueNow_100 fX12_96 (by first | assumption | rfl) rfl ?_
            refine V_iload_n (pc := 103) (i := 1) dX12_valueNow_103 rfl rfl ?_
            refine V_iconst (pc := 104) (v := 1) dX12_valueNow_104 (by decide) ?_
            refine V_isub (pc := 105) dX12_valueNow_105 ?_
            refine VW_ialdN (pc := 106) dX12_valueNow_106 (by first | assumption | rfl) (j := t - 2) ((pk_sub (b := 1) (by omega)).trans (congrArg nI (by omega))) (by omega) (by first | decide | omega) ?_
            rw [upR_same]
            refine V_aload_n (pc := 107) (i := 0) dX12_valueNow_107 rfl rfl ?_
            refine VW_getR (pc := 108) dX12_valueNow_108 fX12_96 (by first | assumption | rfl) rfl ?_
            refine V_iload_n (pc := 111) (i := 1) dX12_valueNow_111 rfl rfl ?_
            refine VW_ialdN (pc := 112) dX12_valueNow_112 (by first | assumption | rfl) (j := t - 1) rfl (by omega) (by first | decide | omega) ?_
            rw [upR_same]
            refine V_S3i (pc := 113) dX12_valueNow_113 cX12_326 (X12_reckon (d := 0) _ _ _) (Nat.le_of_ble_eq_true rfl) (by omega) (Nat.le_of_ble_eq_true rfl) ?_
            refine VW_iastN (pc := 116) dX12_valueNow_116 (by first | assumption | rfl) (by assumption) (j := t - 2) ((pk_sub (b := 1) (by omega)).trans (congrArg nI (by omega))) (by omega) (by first | decide | omega) ?_
            (first | rw [up2_upR] | skip)
            refine V_iinc (pc := 117) dX12_valueNow_117 (by decide) rfl rfl (iincN (n := 1) (by decide)) ?_
            refine V_goto (pc := 120) 4 dX12_valueNow_120 rfl ?_
            first
              | exact V_forget 3 (ih (i + 1) (t + 1) _ (by omega) (by omega) w3)
              | exact V_forget 3 (ih (i + 1) t _ (by omega) (by omega) w3)
              | exact V_forget 3 (ih (i + 1) (t - 1) _ (by omega) (by omega) w3)
          · rw [if_pos c58]
            rw [if_pos c58] at hw
            obtain ⟨w1, w3⟩ := hw
            refine V_aload_n (pc := 61) (i := 0) dX12_valueNow_61 rfl rfl ?_
            refine VW_getR (pc := 62) dX12_valueNow_62 fX12_96 (by first | assumption | rfl) rfl ?_
            refine V_iload_n (pc := 65) (i := 1) dX12_valueNow_65 rfl rfl ?_
            refine V_iconst (pc := 66) (v := 1) dX12_valueNow_66 (by decide) ?_
            refine V_isub (pc := 67) dX12_valueNow_67 ?_
            refine V_aload_n (pc := 68) (i := 0) dX12_valueNow_68 rfl rfl ?_
            refine VW_getR (pc := 69) dX12_valueNow_69 fX12_96 (by first | assumption | rfl) rfl ?_
            refine V_iload_n (pc := 72) (i := 1) dX12_valueNow_72 rfl rfl ?_
            refine V_iconst (pc := 73) (v := 1) dX12_valueNow_73 (by decide) ?_
            refine V_isub (pc := 74) dX12_valueNow_74 ?_
            refine VW_ialdN (pc := 75) dX12_valueNow_75 (by first | assumption | rfl) (pk_sub (b := 1) (by omega)) (by omega) (by first | decide | omega) ?_
            rw [upR_same]
            refine V_if_eq (pc := 76) 83 dX12_valueNow_76 rfl (fun c76 => ?_) (fun c76 => ?_)
            · rw [if_pos c76]
              refine V_iconst (pc := 83) (v := 1) dX12_valueNow_83 (by decide) ?_
              refine VW_iastN (pc := 84) dX12_valueNow_84 (by first | assumption | rfl) (by assumption) (pk_sub (b := 1) (by omega)) (by omega) (by first | decide | omega) ?_
              rw [up2_upR]
              refine V_goto (pc := 85) 117 dX12_valueNow_85 rfl ?_
              (first | rw [up2_upR] | skip)
              refine V_iinc (pc := 117) dX12_valueNow_117 (by decide) rfl rfl (iincN (n := 1) (by decide)) ?_
              refine V_goto (pc := 120) 4 dX12_valueNow_120 rfl ?_
              first
                | exact V_forget 3 (ih (i + 1) (t + 1) _ (by omega) (by omega) w3)
                | exact V_forget 3 (ih (i + 1) t _ (by omega) (by omega) w3)
                | exact V_forget 3 (ih (i + 1) (t - 1) _ (by omega) (by omega) w3)
            · rw [if_neg c76]
              refine V_iconst (pc := 79) (v := 0) dX12_valueNow_79 (by decide) ?_
              refine V_goto (pc := 80) 84 dX12_valueNow_80 rfl ?_
              refine VW_iastN (pc := 84) dX12_valueNow_84 (by first | assumption | rfl) (by assumption) (pk_sub (b := 1) (by omega)) (by omega) (by first | decide | omega) ?_
              rw [up2_upR]
              refine V_goto (pc := 85) 117 dX12_valueNow_85 rfl ?_
              (first | rw [up2_upR] | skip)
              refine V_iinc (pc := 117) dX12_valueNow_117 (by decide) rfl rfl (iincN (n := 1) (by decide)) ?_
              refine V_goto (pc := 120) 4 dX12_valueNow_120 rfl ?_
              first
                | exact V_forget 3 (ih (i + 1) (t + 1) _ (by omega) (by omega) w3)
                | exact V_forget 3 (ih (i + 1) t _ (by omega) (by omega) w3)
                | exact V_forget 3 (ih (i + 1) (t - 1) _ (by omega) (by omega) w3)
        · rw [if_neg c24]
          rw [if_neg c24] at hw
          obtain ⟨w1, w2, w3⟩ := hw
          refine V_aload_n (pc := 27) (i := 0) dX12_valueNow_27 rfl rfl ?_
          refine VW_getR (pc := 28) dX12_valueNow_28 fX12_96 (by first | assumption | rfl) rfl ?_
          refine V_iload_n (pc := 31) (i := 1) dX12_valueNow_31 rfl rfl ?_
          refine V_iload_n (pc := 32) (i := 3) dX12_valueNow_32 rfl rfl ?_
          refine V_if_lt (pc := 33) 40 dX12_valueNow_33 rfl (fun c33 => ?_) (fun c33 => ?_)
          · rw [if_pos c33]
            refine V_aload_n (pc := 40) (i := 0) dX12_valueNow_40 rfl rfl ?_
            refine VW_getR (pc := 41) dX12_valueNow_41 fX12_93 (by first | assumption | rfl) rfl ?_
            refine V_iconst (pc := 44) (v := -1) dX12_valueNow_44 (by decide) ?_
            refine V_iload_n (pc := 45) (i := 3) dX12_valueNow_45 rfl rfl ?_
            refine V_isub (pc := 46) dX12_valueNow_46 ?_
            refine VW_iald (pc := 47) dX12_valueNow_47 (by first | assumption | rfl) (in7 c33 w1) ?_
            (first | rw [upR_row (show (21 : Nat) ≠ 22 by decide)] | skip)
            refine VW_iastN (pc := 48) dX12_valueNow_48 (by first | assumption | rfl) (by assumption) rfl (by omega) (by first | decide | omega) ?_
            rw [up2_upR]
            refine V_iinc (pc := 49) dX12_valueNow_49 (by decide) rfl rfl (iincN (n := 1) (by decide)) ?_
            refine V_goto (pc := 52) 117 dX12_valueNow_52 rfl ?_
            (first | rw [up2_upR] | skip)
            refine V_iinc (pc := 117) dX12_valueNow_117 (by decide) rfl rfl (iincN (n := 1) (by decide)) ?_
            refine V_goto (pc := 120) 4 dX12_valueNow_120 rfl ?_
            first
              | exact V_forget 3 (ih (i + 1) (t + 1) _ (by omega) (by omega) w3)
              | exact V_forget 3 (ih (i + 1) t _ (by omega) (by omega) w3)
              | exact V_forget 3 (ih (i + 1) (t - 1) _ (by omega) (by omega) w3)
          · rw [if_neg c33]
            refine V_iload_n (pc := 36) (i := 3) dX12_valueNow_36 rfl rfl ?_
            refine V_goto (pc := 37) 48 dX12_valueNow_37 rfl ?_
            (first | rw [upR_row (show (21 : Nat) ≠ 22 by decide)] | skip)
            refine VW_iastN (pc := 48) dX12_valueNow_48 (by first | assumption | rfl) (by assumption) rfl (by omega) (by first | decide | omega) ?_
            rw [up2_upR]
            refine V_iinc (pc := 49) dX12_valueNow_49 (by decide) rfl rfl (iincN (n := 1) (by decide)) ?_
            refine V_goto (pc := 52) 117 dX12_valueNow_52 rfl ?_
            (first | rw [up2_upR] | skip)
            refine V_iinc (pc := 117) dX12_valueNow_117 (by decide) rfl rfl (iincN (n := 1) (by decide)) ?_
            refine V_goto (pc := 120) 4 dX12_valueNow_120 rfl ?_
            first
              | exact V_forget 3 (ih (i + 1) (t + 1) _ (by omega) (by omega) w3)
              | exact V_forget 3 (ih (i + 1) t _ (by omega) (by omega) w3)
              | exact V_forget 3 (ih (i + 1) (t - 1) _ (by omega) (by omega) w3)
  rw [show wH G b tbM S h0 = wH G b tbM (upR S 22 (S 22)) h0 by rw [upR_self]]
  exact loop r 0 0 _ rfl (by omega) hw
/-- all that THERE and worths rest on is the same -/
def mSame (S U : Nat → Nat → Int32) : Prop := (∀ k, 3 ≤ k → k ≤ 17 → U k = S k) ∧ U 0 34 = S 0 34
theorem mSame.refl : mSame S S := ⟨fun _ _ _ => rfl, rfl⟩
theorem mSame.up {k j : Nat} {x : Int32} (h : mSame S U) (hk : 18 ≤ k) : mSame S (up2 U k j x) := ⟨fun q h1 h2 => by rw [up2_row (by omega)]; exact h.1 q h1 h2, by rw [up2_row (by omega)]; exact h.2⟩
theorem mSame.upR {k : Nat} {f : Nat → Int32} (h : mSame S U) (hk : 18 ≤ k) : mSame S (upR U k f) := ⟨fun q h1 h2 => by rw [upR_row (by omega)]; exact h.1 q h1 h2, by rw [upR_row (by omega)]; exact h.2⟩
theorem mSame.up0 {j : Nat} {x : Int32} (h : mSame S U) (hj : j ≠ 34) : mSame S (up2 U 0 j x) := ⟨fun q h1 h2 => by rw [up2_row (by omega)]; exact h.1 q h1 h2, by rw [up2_col (by omega)]; exact h.2⟩
theorem mSame.trans {T : Nat → Nat → Int32} (h : mSame S U) (k : mSame U T) : mSame S T := ⟨fun q h1 h2 => (k.1 q h1 h2).trans (h.1 q h1 h2), k.2.trans h.2⟩
theorem mSame.there {n q : Nat} (h : mSame S U) : mThere U n q = mThere S n q := by
  unfold mThere mF
  rw [h.1 10 (by decide) (by decide), h.1 11 (by decide) (by decide), h.1 12 (by decide) (by decide), h.1 9 (by decide) (by decide), h.1 16 (by decide) (by decide), h.1 17 (by decide) (by decide), h.2]
theorem mSame.spare {n q : Nat} (h : mSame S U) : mSpare U n q = mSpare S n q := by
  unfold mSpare mF
  rw [h.1 10 (by decide) (by decide), h.1 11 (by decide) (by decide), h.1 12 (by decide) (by decide), h.1 9 (by decide) (by decide), h.1 16 (by decide) (by decide), h.1 7 (by decide) (by decide), h.2]
theorem X12_thereOfU {n q : Nat} (hU : mSame S U) (hn : S 3 1 = nI n) (h12 : n ≤ 12) (hg : GvOk (S 12) n) (hq : q < 8) (hd : 4 ≤ d) : VM G mX12_thereOf d 0 0 [.ref (b + 0), .int (nI q)] (xE (some (.int (mThere S n q))) (wH G b tbM U h0)) (wH G b tbM U h0) := by
  rw [← hU.there]
  exact X12_thereOf (by rw [hU.1 3 (by decide) (by decide)]; exact hn) h12 (by rw [hU.1 12 (by decide) (by decide)]; exact hg) hq hd
theorem X12_sparedOfU {n q : Nat} (hU : mSame S U) (hn : S 3 1 = nI n) (h12 : n ≤ 12) (hg : GvOk (S 12) n) (hq : q < 8) (hd : 4 ≤ d) : VM G mX12_sparedOf d 0 0 [.ref (b + 0), .int (nI q)] (xE (some (.int (mSpare S n q))) (wH G b tbM U h0)) (wH G b tbM U h0) := by
  rw [← hU.spare]
  exact X12_sparedOf (by rw [hU.1 3 (by decide) (by decide)]; exact hn) h12 (by rw [hU.1 12 (by decide) (by decide)]; exact hg) hq hd
theorem X12_worthOfU (hU : mSame S U) (t : Int32) (hd : 1 ≤ d) : VM G mX12_worthOf d 0 0 [.ref (b + 0), .int t] (xE (some (.int (sumB (S 4) t 10 0 0))) (wH G b tbM U h0)) (wH G b tbM U h0) := by
  rw [← hU.1 4 (by decide) (by decide)]
  exact X12_worthOf t hd
/-- the model between calls: n IFS, pp PEOPLE, a rule of r signs, bb are borne -/
def MI (S : Nat → Nat → Int32) (n pp r bb : Nat) : Prop := S 3 1 = nI n ∧ n ≤ 12 ∧ GvOk (S 12) n ∧ S 3 0 = nI pp ∧ pp ≤ 8 ∧ S 3 3 = nI r ∧ r ≤ 700 ∧ (0 < r → wfC (S 13) r 0 0) ∧ S 0 35 = nI bb ∧ bb ≤ 8
def mVals (S : Nat → Nat → Int32) (n q : Nat) : Nat → Nat → Int32 := up2 (up2 (up2 (up2 (up2 (up2 (up2 S 21 0 (S 18 q)) 21 1 (sumB (S 4) (S 16 q) 10 0 0)) 21 2 (sumB (S 4) (mThere S n q) 10 0 0)) 21 3 (sumB (S 4) (mSpare S n q) 10 0 0)) 21 4 (S 0 32)) 21 5 (S 19 q)) 21 6 (b2i (hasB (S 0 33) (nI q)))
theorem mVals_off {n q k : Nat} (h : k ≠ 21) : mVals S n q k = S k := by
  unfold mVals
  simp (disch := omega) only [up2_row]
def mWants (S : Nat → Nat → Int32) (n r q : Nat) : Bool × (Nat → Nat → Int32) :=
  if r = 0 then (decide (10 ≤ S 18 q), S) else (decide (0 < rkM (S 13) (mVals S n q 21) r 0 0 (S 22) 0), upR (mVals S n q) 22 (rkM (S 13) (mVals S n q 21) r 0 0 (S 22)))
theorem mWants_off {n r q k : Nat} (h : k ≠ 21) (h2 : k ≠ 22) : (mWants S n r q).2 k = S k := by
  unfold mWants
  split
  · rfl
  · show upR (mVals S n q) 22 _ k = S k
    rw [upR_row h2, mVals_off h]
theorem X12_wants {n pp r bb q : Nat} (ci : MI S n pp r bb) (hq : q < 8) (hb : gB G ≤ b) (hd : 5 ≤ d) : VM G mX12_wants d 0 0 [.ref (b + 0), .int (nI q)] (xE (some (.int (b2i (mWants S n r q).1))) (wH G b tbM (mWants S n r q).2 h0)) (wH G b tbM S h0) := by
  obtain ⟨hn, h12, hg, hp, h8, hr, h7, hw, hbb, hb8⟩ := id ci
  refine VM_start (ls := [some (.ref (b + 0)), some (.int (nI q))]) rfl ?_
  unfold mWants
  have m0 : mSame S S := mSame.refl
  -- %m X12_wants
  refine V_aload_n (pc := 0) (i := 0) dX12_wants_0 rfl rfl ?_
  refine VW_getR (pc := 1) dX12_wants_1 fX12_36 (by first | assumption | rfl) rfl ?_
  refine V_iconst (pc := 4) (v := 3) dX12_wants_4 (by decide) ?_
  refine VW_ialdN (pc := 5) dX12_wants_5 (by first | assumption | rfl) (j := 3) rfl (by decide) (by first | decide | omega) ?_
  refine V_if_ne (pc := 6) 26 dX12_wants_6 rfl (fun c6 => ?_) (fun c6 => ?_)
  · have r0 : ¬ r = 0 := fun q => c6 (by rw [hr, q]; rfl)
    rw [if_neg r0]
    refine V_aload_n (pc := 26) (i := 0) dX12_wants_26 rfl rfl ?_
    refine VW_getR (pc := 27) dX12_wants_27 fX12_93 (by first | assumption | rfl) rfl ?_
    refine V_iconst (pc := 30) (v := 0) dX12_wants_30 (by decide) ?_
    refine V_aload_n (pc := 31) (i := 0) dX12_wants_31 rfl rfl ?_
    refine VW_getR (pc := 32) dX12_wants_32 fX12_86 (by first | assumption | rfl) rfl ?_
    refine V_iload_n (pc := 35) (i := 1) dX12_wants_35 rfl rfl ?_
    refine VW_ialdN (pc := 36) dX12_wants_36 (by first | assumption | rfl) rfl (by omega) (by first | decide | omega) ?_
    refine VW_iastN (pc := 37) dX12_wants_37 (by first | assumption | rfl) (by assumption) (j := 0) rfl (by decide) (by first | decide | omega) ?_
    refine V_aload_n (pc := 38) (i := 0) dX12_wants_38 rfl rfl ?_
    refine VW_getR (pc := 39) dX12_wants_39 fX12_93 (by first | assumption | rfl) rfl ?_
    refine V_iconst (pc := 42) (v := 1) dX12_wants_42 (by decide) ?_
    refine V_aload_n (pc := 43) (i := 0) dX12_wants_43 rfl rfl ?_
    refine V_aload_n (pc := 44) (i := 0) dX12_wants_44 rfl rfl ?_
    refine VW_getR (pc := 45) dX12_wants_45 fX12_80 (by first | assumption | rfl) rfl ?_
    refine V_iload_n (pc := 48) (i := 1) dX12_wants_48 rfl rfl ?_
    refine VW_ialdN (pc := 49) dX12_wants_49 (by first | assumption | rfl) rfl (by omega) (by first | decide | omega) ?_
    simp (disch := omega) only [up2_row]
    have m1 : mSame S (up2 S 21 0 (S 18 q)) := m0.up (by decide)
    refine V_V1i (pc := 50) dX12_wants_50 cX12_330 (by first | assumption | rfl) (X12_worthOfU (d := 1) m1 _ (by omega)) (Nat.le_of_ble_eq_true rfl) (by omega) (Nat.le_of_ble_eq_true rfl) ?_
    refine VW_iastN (pc := 53) dX12_wants_53 (by first | assumption | rfl) (by assumption) (j := 1) rfl (by decide) (by first | decide | omega) ?_
    have m2 := m1.up (k := 21) (j := 1) (x := sumB (S 4) (S 16 q) 10 0 0) (by decide)
    refine V_aload_n (pc := 54) (i := 0) dX12_wants_54 rfl rfl ?_
    refine VW_getR (pc := 55) dX12_wants_55 fX12_93 (by first | assumption | rfl) rfl ?_
    refine V_iconst (pc := 58) (v := 2) dX12_wants_58 (by decide) ?_
    refine V_aload_n (pc := 59) (i := 0) dX12_wants_59 rfl rfl ?_
    refine V_aload_n (pc := 60) (i := 0) dX12_wants_60 rfl rfl ?_
    refine V_iload_n (pc := 61) (i := 1) dX12_wants_61 rfl rfl ?_
    refine V_V1i (pc := 62) dX12_wants_62 cX12_333 (by first | assumption | rfl) (X12_thereOfU (d := 4) m2 hn h12 hg hq (by omega)) (Nat.le_of_ble_eq_true rfl) (by omega) (Nat.le_of_ble_eq_true rfl) ?_
    refine V_V1i (pc := 65) dX12_wants_65 cX12_330 (by first | assumption | rfl) (X12_worthOfU (d := 1) m2 _ (by omega)) (Nat.le_of_ble_eq_true rfl) (by omega) (Nat.le_of_ble_eq_true rfl) ?_
    refine VW_iastN (pc := 68) dX12_wants_68 (by first | assumption | rfl) (by assumption) (j := 2) rfl (by decide) (by first | decide | omega) ?_
    have m3 := m2.up (k := 21) (j := 2) (x := sumB (S 4) (mThere S n q) 10 0 0) (by decide)
    refine V_aload_n (pc := 69) (i := 0) dX12_wants_69 rfl rfl ?_
    refine VW_getR (pc := 70) dX12_wants_70 fX12_93 (by first | assumption | rfl) rfl ?_
    refine V_iconst (pc := 73) (v := 3) dX12_wants_73 (by decide) ?_
    refine V_aload_n (pc := 74) (i := 0) dX12_wants_74 rfl rfl ?_
    refine V_aload_n (pc := 75) (i := 0) dX12_wants_75 rfl rfl ?_
    refine V_iload_n (pc := 76) (i := 1) dX12_wants_76 rfl rfl ?_
    refine V_V1i (pc := 77) dX12_wants_77 cX12_336 (by first | assumption | rfl) (X12_sparedOfU (d := 4) m3 hn h12 hg hq (by omega)) (Nat.le_of_ble_eq_true rfl) (by omega) (Nat.le_of_ble_eq_true rfl) ?_
    refine V_V1i (pc := 80) dX12_wants_80 cX12_330 (by first | assumption | rfl) (X12_worthOfU (d := 1) m3 _ (by omega)) (Nat.le_of_ble_eq_true rfl) (by omega) (Nat.le_of_ble_eq_true rfl) ?_
    refine VW_iastN (pc := 83) dX12_wants_83 (by first | assumption | rfl) (by assumption) (j := 3) rfl (by decide) (by first | decide | omega) ?_
    refine V_aload_n (pc := 84) (i := 0) dX12_wants_84 rfl rfl ?_
    refine VW_getR (pc := 85) dX12_wants_85 fX12_93 (by first | assumption | rfl) rfl ?_
    refine V_iconst (pc := 88) (v := 4) dX12_wants_88 (by decide) ?_
    refine V_aload_n (pc := 89) (i := 0) dX12_wants_89 rfl rfl ?_
    refine VW_getI (pc := 90) dX12_wants_90 fX12_300 (by first | assumption | rfl) rfl ?_
    simp (disch := omega) only [up2_row]
    refine VW_iastN (pc := 93) dX12_wants_93 (by first | assumption | rfl) (by assumption) (j := 4) rfl (by decide) (by first | decide | omega) ?_
    refine V_aload_n (pc := 94) (i := 0) dX12_wants_94 rfl rfl ?_
    refine VW_getR (pc := 95) dX12_wants_95 fX12_93 (by first | assumption | rfl) rfl ?_
    refine V_iconst (pc := 98) (v := 5) dX12_wants_98 (by decide) ?_
    refine V_aload_n (pc := 99) (i := 0) dX12_wants_99 rfl rfl ?_
    refine VW_getR (pc := 100) dX12_wants_100 fX12_88 (by first | assumption | rfl) rfl ?_
    refine V_iload_n (pc := 103) (i := 1) dX12_wants_103 rfl rfl ?_
    refine VW_ialdN (pc := 104) dX12_wants_104 (by first | assumption | rfl) rfl (by omega) (by first | decide | omega) ?_
    simp (disch := omega) only [up2_row]
    refine VW_iastN (pc := 105) dX12_wants_105 (by first | assumption | rfl) (by assumption) (j := 5) rfl (by decide) (by first | decide | omega) ?_
    refine V_aload_n (pc := 106) (i := 0) dX12_wants_106 rfl rfl ?_
    refine VW_getR (pc := 107) dX12_wants_107 fX12_93 (by first | assumption | rfl) rfl ?_
    refine V_bipush (pc := 110) (v := 6) dX12_wants_110 (by decide) ?_
    refine V_aload_n (pc := 112) (i := 0) dX12_wants_112 rfl rfl ?_
    refine VW_getI (pc := 113) dX12_wants_113 fX12_302 (by first | assumption | rfl) rfl ?_
    simp (disch := omega) only [up2_row]
    refine V_iload_n (pc := 116) (i := 1) dX12_wants_116 rfl rfl ?_
    refine V_ishr (pc := 117) dX12_wants_117 ?_
    refine V_iconst (pc := 118) (v := 1) dX12_wants_118 (by decide) ?_
    refine V_iand (pc := 119) dX12_wants_119 ?_
    rw [shr1]
    refine VW_iastN (pc := 120) dX12_wants_120 (by first | assumption | rfl) (by assumption) (j := 6) rfl (by decide) (by first | decide | omega) ?_
    have ev : wH G b tbM (mVals S n q) h0 = wH G b tbM (up2 (up2 (up2 (up2 (up2 (up2 (up2 S 21 0 (S 18 q)) 21 1 (sumB (S 4) (S 16 q) 10 0 0)) 21 2 (sumB (S 4) (mThere S n q) 10 0 0)) 21 3 (sumB (S 4) (mSpare S n q) 10 0 0)) 21 4 (S 0 32)) 21 5 (S 19 q)) 21 6 (b2i (hasB (S 0 33) (nI q)))) h0 := rfl
    rw [← ev]
    have kv := X12_valueNow (G := G) (d := 1) (b := b) (h0 := h0) (S := mVals S n q) (r := r) (by rw [mVals_off (by decide)]; exact hr) h7 (by rw [mVals_off (by decide)]; exact hw (by omega)) hb (by omega)
    rw [mVals_off (show (13 : Nat) ≠ 21 by decide), mVals_off (show (22 : Nat) ≠ 21 by decide)] at kv
    refine V_aload_n (pc := 121) (i := 0) dX12_wants_121 rfl rfl ?_
    refine V_V0i (pc := 122) dX12_wants_122 cX12_339 (by first | assumption | rfl) kv (Nat.le_of_ble_eq_true rfl) (by omega) (Nat.le_of_ble_eq_true rfl) ?_
    refine V_if_le (pc := 125) 132 dX12_wants_125 rfl (fun c125 => ?_) (fun c125 => ?_)
    · have e : decide (0 < rkM (S 13) (mVals S n q 21) r 0 0 (S 22) 0) = false := decide_eq_false (Int32.not_lt.mpr c125)
      refine V_iconst (pc := 132) (v := 0) dX12_wants_132 (by decide) ?_
      exact VE_zret (pc := 133) dX12_wants_133 rfl (Or.inl rfl) (by show _ = b2i (decide _); rw [e]; rfl) rfl
    · have e : decide (0 < rkM (S 13) (mVals S n q 21) r 0 0 (S 22) 0) = true := decide_eq_true (Int32.not_le.mp c125)
      refine V_iconst (pc := 128) (v := 1) dX12_wants_128 (by decide) ?_
      refine V_goto (pc := 129) 133 dX12_wants_129 rfl ?_
      exact VE_zret (pc := 133) dX12_wants_133 rfl (Or.inr rfl) (by show _ = b2i (decide _); rw [e]; rfl) rfl
  · have r0 : r = 0 := (nI_eq (by omega) (by decide)).mp (hr.symm.trans c6)
    rw [if_pos r0]
    refine V_aload_n (pc := 9) (i := 0) dX12_wants_9 rfl rfl ?_
    refine VW_getR (pc := 10) dX12_wants_10 fX12_86 (by first | assumption | rfl) rfl ?_
    refine V_iload_n (pc := 13) (i := 1) dX12_wants_13 rfl rfl ?_
    refine VW_ialdN (pc := 14) dX12_wants_14 (by first | assumption | rfl) rfl (by omega) (by first | decide | omega) ?_
    refine V_bipush (pc := 15) (v := 10) dX12_wants_15 (by decide) ?_
    refine V_icmp_lt (pc := 17) 24 dX12_wants_17 rfl (fun c17 => ?_) (fun c17 => ?_)
    · have c18 : ¬ 10 ≤ S 18 q := Int32.not_le.mpr c17
      rw [show b2i (decide (10 ≤ S 18 q), S).1 = 0 by simp [b2i, c18]]
      refine V_iconst (pc := 24) (v := 0) dX12_wants_24 (by decide) ?_
      exact VE_zret (pc := 25) dX12_wants_25 rfl (by first | exact Or.inl rfl | exact Or.inr rfl) rfl rfl
    · have c18 : 10 ≤ S 18 q := Int32.not_lt.mp c17
      rw [show b2i (decide (10 ≤ S 18 q), S).1 = 1 by simp [b2i, c18]]
      refine V_iconst (pc := 20) (v := 1) dX12_wants_20 (by decide) ?_
      refine V_goto (pc := 21) 25 dX12_wants_21 rfl ?_
      exact VE_zret (pc := 25) dX12_wants_25 rfl (by first | exact Or.inl rfl | exact Or.inr rfl) rfl rfl
theorem mWants_MI {n pp r bb q : Nat} (ci : MI S n pp r bb) : MI (mWants S n r q).2 n pp r bb := by
  obtain ⟨hn, h12, hg, hp, h8, hr, h7, hw, hbb, hb8⟩ := id ci
  refine ⟨?_, h12, ?_, ?_, h8, ?_, h7, ?_, ?_, hb8⟩ <;> rw [mWants_off (by decide) (by decide)] <;> assumption
theorem mWants_same {n r q : Nat} : mSame S (mWants S n r q).2 := ⟨fun k h1 h2 => mWants_off (by omega) (by omega), by rw [mWants_off (by decide) (by decide)]⟩
def mWho (n r : Nat) : Nat → Nat → Int32 → (Nat → Nat → Int32) → Int32 × (Nat → Nat → Int32)
  | 0, _, x, S => (x, S)
  | m + 1, q, x, S => mWho n r m (q + 1) (if (mWants S n r q).1 then x ||| 1 <<< (nI q &&& 31) else x) (mWants S n r q).2
theorem mWho_off {n r k : Nat} (h : k ≠ 21) (h2 : k ≠ 22) : ∀ (m q : Nat) (x : Int32) (S : Nat → Nat → Int32), (mWho n r m q x S).2 k = S k := by
  intro m
  induction m with
  | zero => intro q x S; rfl
  | succ m ih => intro q x S; rw [mWho, ih, mWants_off h h2]
theorem X12_wanting {n pp r bb : Nat} (ci : MI S n pp r bb) (hb : gB G ≤ b) (hd : 6 ≤ d) : VM G mX12_wanting d 0 0 [.ref (b + 0)] (xE (some (.int (mWho n r pp 0 0 S).1)) (wH G b tbM (mWho n r pp 0 0 S).2 h0)) (wH G b tbM S h0) := by
  refine VM_start (ls := [some (.ref (b + 0)), none, none]) rfl ?_
  -- %m X12_wanting
  refine V_iconst (pc := 0) (v := 0) dX12_wanting_0 (by decide) ?_
  refine V_istore_n (pc := 1) (i := 1) dX12_wanting_1 rfl (by decide) rfl ?_
  refine V_iconst (pc := 2) (v := 0) dX12_wanting_2 (by decide) ?_
  refine V_istore_n (pc := 3) (i := 2) dX12_wanting_3 rfl (by decide) rfl ?_
  have loop : ∀ (m i : Nat) (x : Int32) (U : Nat → Nat → Int32), m + i = pp → MI U n pp r bb → V G mX12_wanting d 0 0 (xE (some (.int (mWho n r m i x U).1)) (wH G b tbM (mWho n r m i x U).2 h0)) 4 [some (.ref (b + 0)), some (.int x), some (.int (nI i))] [] (wH G b tbM U h0) := by
    intro m
    induction m with
    | zero =>
      intro i x U hm hU
      obtain ⟨hn, h12, hg, hp, h8, hr, h7, hw, hbb, hb8⟩ := id hU
      refine V_iload_n (pc := 4) (i := 2) dX12_wanting_4 rfl rfl ?_
      refine V_aload_n (pc := 5) (i := 0) dX12_wanting_5 rfl rfl ?_
      refine VW_getR (pc := 6) dX12_wanting_6 fX12_36 (by first | assumption | rfl) rfl ?_
      refine V_iconst (pc := 9) (v := 0) dX12_wanting_9 (by decide) ?_
      refine VW_ialdN (pc := 10) dX12_wanting_10 (by first | assumption | rfl) (j := 0) rfl (by decide) (by first | decide | omega) ?_
      refine V_icmp_ge (pc := 11) 38 dX12_wanting_11 rfl (fun c11 => ?_) (fun c11 => ?_)
      · refine V_iload_n (pc := 38) (i := 1) dX12_wanting_38 rfl rfl ?_
        exact VE_iret (pc := 39) dX12_wanting_39 rfl rfl rfl
      · exact absurd (by rw [hp, show i = pp by omega]; exact nI_le (by omega) (by omega)) c11
    | succ m ih =>
      intro i x U hm hU
      obtain ⟨hn, h12, hg, hp, h8, hr, h7, hw, hbb, hb8⟩ := id hU
      rw [mWho]
      refine V_iload_n (pc := 4) (i := 2) dX12_wanting_4 rfl rfl ?_
      refine V_aload_n (pc := 5) (i := 0) dX12_wanting_5 rfl rfl ?_
      refine VW_getR (pc := 6) dX12_wanting_6 fX12_36 (by first | assumption | rfl) rfl ?_
      refine V_iconst (pc := 9) (v := 0) dX12_wanting_9 (by decide) ?_
      refine VW_ialdN (pc := 10) dX12_wanting_10 (by first | assumption | rfl) (j := 0) rfl (by decide) (by first | decide | omega) ?_
      refine V_icmp_ge (pc := 11) 38 dX12_wanting_11 rfl (fun c11 => ?_) (fun c11 => ?_)
      · exact absurd c11 (by rw [hp]; exact nI_ge (by omega) (by omega))
      · refine V_iload_n (pc := 14) (i := 1) dX12_wanting_14 rfl rfl ?_
        refine V_aload_n (pc := 15) (i := 0) dX12_wanting_15 rfl rfl ?_
        refine V_iload_n (pc := 16) (i := 2) dX12_wanting_16 rfl rfl ?_
        refine V_V1i (pc := 17) dX12_wanting_17 cX12_342 (by first | assumption | rfl) (X12_wants (d := 5) hU (by omega) hb (by omega)) (Nat.le_of_ble_eq_true rfl) (by omega) (Nat.le_of_ble_eq_true rfl) ?_
        refine V_if_eq (pc := 20) 29 dX12_wanting_20 rfl (fun c20 => ?_) (fun c20 => ?_)
        · rw [if_neg (by rw [b2i_0.mp c20]; decide)]
          refine V_iconst (pc := 29) (v := 0) dX12_wanting_29 (by decide) ?_
          refine V_ior (pc := 30) dX12_wanting_30 ?_
          (first | rw [Int32.or_zero] | skip)
          refine V_istore_n (pc := 31) (i := 1) dX12_wanting_31 rfl (by decide) rfl ?_
          refine V_iinc (pc := 32) dX12_wanting_32 (by decide) rfl rfl (iincN (n := 1) (by decide)) ?_
          refine V_goto (pc := 35) 4 dX12_wanting_35 rfl ?_
          exact ih (i + 1) _ _ (by omega) (mWants_MI hU)
        · rw [if_pos (b2i_n0.mp c20)]
          refine V_iconst (pc := 23) (v := 1) dX12_wanting_23 (by decide) ?_
          refine V_iload_n (pc := 24) (i := 2) dX12_wanting_24 rfl rfl ?_
          refine V_ishl (pc := 25) dX12_wanting_25 ?_
          refine V_goto (pc := 26) 30 dX12_wanting_26 rfl ?_
          refine V_ior (pc := 30) dX12_wanting_30 ?_
          (first | rw [Int32.or_zero] | skip)
          refine V_istore_n (pc := 31) (i := 1) dX12_wanting_31 rfl (by decide) rfl ?_
          refine V_iinc (pc := 32) dX12_wanting_32 (by decide) rfl rfl (iincN (n := 1) (by decide)) ?_
          refine V_goto (pc := 35) 4 dX12_wanting_35 rfl ?_
          exact ih (i + 1) _ _ (by omega) (mWants_MI hU)
  exact loop pp 0 0 S rfl ci
theorem mlF_or (lg : Nat → Int32) (x : Int32) : ∀ (m i : Nat) (z : Int32), (z = -1 ∨ ∃ j, j < i ∧ z = nI j) → (mlF lg x m i z = -1 ∨ ∃ j, j < i + m ∧ mlF lg x m i z = nI j) := by
  intro m
  induction m with
  | zero => intro i z h; exact h
  | succ m ih =>
    intro i z h
    rw [mlF]
    have := ih (i + 1) (if hasB x (nI i) = true ∧ (z = -1 ∨ lg z.toNatClampNeg < lg i) then nI i else z) (by
      split
      · exact Or.inr ⟨i, by omega, rfl⟩
      · rcases h with h | ⟨j, h1, h2⟩
        · exact Or.inl h
        · exact Or.inr ⟨j, by omega, h2⟩)
    rw [show i + (m + 1) = i + 1 + m by omega]
    exact this
theorem X12_longingMost {pp : Nat} (hp : S 3 0 = nI pp) (h8 : pp ≤ 8) (x : Int32) (hd : 1 ≤ d) : VM G mX12_longingMost d 0 0 [.ref (b + 0), .int x] (xE (some (.int (mlF (S 18) x pp 0 (-1)))) (wH G b tbM S h0)) (wH G b tbM S h0) := by
  refine VM_start (ls := [some (.ref (b + 0)), some (.int x), none, none]) rfl ?_
  -- %m X12_longingMost
  refine V_iconst (pc := 0) (v := -1) dX12_longingMost_0 (by decide) ?_
  refine V_istore_n (pc := 1) (i := 2) dX12_longingMost_1 rfl (by decide) rfl ?_
  refine V_iconst (pc := 2) (v := 0) dX12_longingMost_2 (by decide) ?_
  refine V_istore_n (pc := 3) (i := 3) dX12_longingMost_3 rfl (by decide) rfl ?_
  have loop : ∀ (m i : Nat) (z : Int32), m + i = pp → (z = -1 ∨ ∃ j, j < i ∧ z = nI j) → V G mX12_longingMost d 0 0 (xE (some (.int (mlF (S 18) x m i z))) (wH G b tbM S h0)) 4 [some (.ref (b + 0)), some (.int x), some (.int z), some (.int (nI i))] [] (wH G b tbM S h0) := by
    intro m
    induction m with
    | zero =>
      intro i z hm hz
      refine V_iload_n (pc := 4) (i := 3) dX12_longingMost_4 rfl rfl ?_
      refine V_aload_n (pc := 5) (i := 0) dX12_longingMost_5 rfl rfl ?_
      refine VW_getR (pc := 6) dX12_longingMost_6 fX12_36 (by first | assumption | rfl) rfl ?_
      refine V_iconst (pc := 9) (v := 0) dX12_longingMost_9 (by decide) ?_
      refine VW_ialdN (pc := 10) dX12_longingMost_10 (by first | assumption | rfl) (j := 0) rfl (by decide) (by first | decide | omega) ?_
      refine V_icmp_ge (pc := 11) 50 dX12_longingMost_11 rfl (fun c11 => ?_) (fun c11 => ?_)
      · refine V_iload_n (pc := 50) (i := 2) dX12_longingMost_50 rfl rfl ?_
        exact VE_iret (pc := 51) dX12_longingMost_51 rfl rfl rfl
      · exact absurd (by rw [hp, show i = pp by omega]; exact nI_le (by omega) (by omega)) c11
    | succ m ih =>
      intro i z hm hz
      rw [mlF]
      have hz2 : z = -1 ∨ ∃ j, j < i + 1 ∧ z = nI j := by
        rcases hz with q | ⟨j, q1, q2⟩
        · exact Or.inl q
        · exact Or.inr ⟨j, by omega, q2⟩
      refine V_iload_n (pc := 4) (i := 3) dX12_longingMost_4 rfl rfl ?_
      refine V_aload_n (pc := 5) (i := 0) dX12_longingMost_5 rfl rfl ?_
      refine VW_getR (pc := 6) dX12_longingMost_6 fX12_36 (by first | assumption | rfl) rfl ?_
      refine V_iconst (pc := 9) (v := 0) dX12_longingMost_9 (by decide) ?_
      refine VW_ialdN (pc := 10) dX12_longingMost_10 (by first | assumption | rfl) (j := 0) rfl (by decide) (by first | decide | omega) ?_
      refine V_icmp_ge (pc := 11) 50 dX12_longingMost_11 rfl (fun c11 => ?_) (fun c11 => ?_)
      · exact absurd c11 (by rw [hp]; exact nI_ge (by omega) (by omega))
      · refine V_iload_n (pc := 14) (i := 1) dX12_longingMost_14 rfl rfl ?_
        refine V_iload_n (pc := 15) (i := 3) dX12_longingMost_15 rfl rfl ?_
        refine V_S2i (pc := 16) dX12_longingMost_16 cX12_263 (X12_isOf (d := 0) _ _) (Nat.le_of_ble_eq_true rfl) (by omega) (Nat.le_of_ble_eq_true rfl) ?_
        refine V_if_eq (pc := 19) 44 dX12_longingMost_19 rfl (fun c19 => ?_) (fun c19 => ?_)
        · rw [if_neg (by rw [b2i_0.mp c19]; exact fun q => absurd q.1 (by decide))]
          refine V_iinc (pc := 44) dX12_longingMost_44 (by decide) rfl rfl (iincN (n := 1) (by decide)) ?_
          refine V_goto (pc := 47) 4 dX12_longingMost_47 rfl ?_
          exact ih (i + 1) _ (by omega) hz2
        · refine V_iload_n (pc := 22) (i := 2) dX12_longingMost_22 rfl rfl ?_
          refine V_iconst (pc := 23) (v := -1) dX12_longingMost_23 (by decide) ?_
          refine V_icmp_eq (pc := 24) 42 dX12_longingMost_24 rfl (fun c24 => ?_) (fun c24 => ?_)
          · rw [if_pos ⟨b2i_n0.mp c19, Or.inl c24⟩]
            refine V_iload_n (pc := 42) (i := 3) dX12_longingMost_42 rfl rfl ?_
            refine V_istore_n (pc := 43) (i := 2) dX12_longingMost_43 rfl (by decide) rfl ?_
            refine V_iinc (pc := 44) dX12_longingMost_44 (by decide) rfl rfl (iincN (n := 1) (by decide)) ?_
            refine V_goto (pc := 47) 4 dX12_longingMost_47 rfl ?_
            exact ih (i + 1) _ (by omega) (Or.inr ⟨i, by omega, rfl⟩)
          · obtain ⟨j, hj, ej⟩ := hz.resolve_left c24
            refine V_aload_n (pc := 27) (i := 0) dX12_longingMost_27 rfl rfl ?_
            refine VW_getR (pc := 28) dX12_longingMost_28 fX12_86 (by first | assumption | rfl) rfl ?_
            refine V_iload_n (pc := 31) (i := 3) dX12_longingMost_31 rfl rfl ?_
            refine VW_ialdN (pc := 32) dX12_longingMost_32 (by first | assumption | rfl) rfl (by omega) (by first | decide | omega) ?_
            refine V_aload_n (pc := 33) (i := 0) dX12_longingMost_33 rfl rfl ?_
            refine VW_getR (pc := 34) dX12_longingMost_34 fX12_86 (by first | assumption | rfl) rfl ?_
            refine V_iload_n (pc := 37) (i := 2) dX12_longingMost_37 rfl rfl ?_
            refine VW_ialdN (pc := 38) dX12_longingMost_38 (by first | assumption | rfl) (j := j) ej (by omega) (by first | decide | omega) ?_
            refine V_icmp_le (pc := 39) 44 dX12_longingMost_39 rfl (fun c39 => ?_) (fun c39 => ?_)
            · rw [if_neg (fun q => q.2.elim c24 (fun q2 => by rw [ej, nI_clamp (by omega)] at q2; exact absurd q2 (Int32.not_lt.mpr c39)))]
              refine V_iinc (pc := 44) dX12_longingMost_44 (by decide) rfl rfl (iincN (n := 1) (by decide)) ?_
              refine V_goto (pc := 47) 4 dX12_longingMost_47 rfl ?_
              exact ih (i + 1) _ (by omega) hz2
            · rw [if_pos ⟨b2i_n0.mp c19, Or.inr (by rw [ej, nI_clamp (by omega)]; exact Int32.not_le.mp c39)⟩]
              refine V_iload_n (pc := 42) (i := 3) dX12_longingMost_42 rfl rfl ?_
              refine V_istore_n (pc := 43) (i := 2) dX12_longingMost_43 rfl (by decide) rfl ?_
              refine V_iinc (pc := 44) dX12_longingMost_44 (by decide) rfl rfl (iincN (n := 1) (by decide)) ?_
              refine V_goto (pc := 47) 4 dX12_longingMost_47 rfl ?_
              exact ih (i + 1) _ (by omega) (Or.inr ⟨i, by omega, rfl⟩)
  exact loop pp 0 _ rfl (Or.inl rfl)
end M5
