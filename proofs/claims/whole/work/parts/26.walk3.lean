/-! ===== Walk: who wants to cross, a SUNDAY ===== -/
section Wk3
variable {G : xG} {d bc bs : Nat} {b : Nat} {S : Nat → Nat → Int32} {h0 h : xH}
/-- the VALUES of q are laid -/
def wkVals (S : Nat → Nat → Int32) (q : Nat) : Nat → Nat → Int32 := up2 (up2 (up2 (up2 (up2 (up2 (up2 S 67 0 (S 61 q)) 67 1 (S 64 q)) 67 2 (S 65 q)) 67 3 (S 66 q)) 67 4 (S 58 6)) 67 5 (S 62 q)) 67 6 (b2i (hasB (S 58 7) (nI q)))
/-- whether q wants to cross, by the shore at s with r codes; the state then -/
def wkWants (S : Nat → Nat → Int32) (s r q : Nat) : Bool × (Nat → Nat → Int32) :=
  if 0 < S (s + 6) 2 then (decide (0 < (rkF (S (s + 7)) (wkVals S q 67) r 0 0 (S (s + 8))).1), upR (wkVals S q) (s + 8) (rkF (S (s + 7)) (wkVals S q 67) r 0 0 (S (s + 8))).2) else (decide (10 ≤ S 61 q), S)
theorem X10_wants {s r q : Nat} (hsh : shC (S 57 6) = s) (hr : S (s + 6) 2 = nI r) (h7 : r ≤ 700) (hq : q < 8) (hb : gB G ≤ b) (hd : 2 ≤ d) : VM G mX10_wants d 0 0 [.ref (b + 57), .int (nI q)] (xE (some (.int (b2i (wkWants S s r q).1))) (wH G b tbC (wkWants S s r q).2 h0)) (wH G b tbC S h0) := by
  have hs := shC_or (S 57 6)
  have hS := tbC_shore (S 57 6)
  rw [hsh] at hs hS
  obtain ⟨a0, a1, a2, a3, -⟩ := id hS
  obtain ⟨r0, r1, r2⟩ := id a3
  refine VM_start (ls := [some (.ref (b + 57)), some (.int (nI q))]) rfl ?_
  unfold wkWants
  -- %m X10_wants
  refine V_aload_n (pc := 0) (i := 0) dX10_wants_0 rfl rfl ?_
  refine VW_getWs (pc := 1) dX10_wants_1 fX10_40 (by first | assumption | rfl) rfl (by first | assumption | (simp (disch := omega) only [up2_row, up2_col, up2_same, upR_row]; assumption)) ?_
  refine VW_getR (pc := 4) dX10_wants_4 fX10_101 (by first | assumption | rfl) rfl ?_
  refine V_V0i (pc := 7) dX10_wants_7 cX10_105 (by first | assumption | rfl) (X4_isTold (d := 0) a3) (Nat.le_of_ble_eq_true rfl) (by omega) (Nat.le_of_ble_eq_true rfl) ?_
  refine V_if_ne (pc := 10) 33 dX10_wants_10 rfl (fun c10 => ?_) (fun c10 => ?_)
  · have e : 0 < S (s + 6) 2 := of_decide_eq_true (b2i_n0.mp c10)
    rw [if_pos e]
    refine V_aload_n (pc := 33) (i := 0) dX10_wants_33 rfl rfl ?_
    refine VW_getR (pc := 34) dX10_wants_34 fX10_33 (by first | assumption | rfl) rfl ?_
    refine V_iconst (pc := 37) (v := 0) dX10_wants_37 (by decide) ?_
    refine V_aload_n (pc := 38) (i := 0) dX10_wants_38 rfl rfl ?_
    refine VW_getR (pc := 39) dX10_wants_39 fX10_12 (by first | assumption | rfl) rfl ?_
    refine VW_getR (pc := 42) dX10_wants_42 fX10_109 (by first | assumption | rfl) rfl ?_
    refine V_iload_n (pc := 45) (i := 1) dX10_wants_45 rfl rfl ?_
    refine VW_ialdN (pc := 46) dX10_wants_46 (by first | assumption | rfl) rfl (by omega) (by first | decide | omega) ?_
    refine VW_iastN (pc := 47) dX10_wants_47 (by first | assumption | rfl) (by assumption) (j := 0) rfl (by decide) (by first | decide | omega) ?_
    refine V_aload_n (pc := 48) (i := 0) dX10_wants_48 rfl rfl ?_
    refine VW_getR (pc := 49) dX10_wants_49 fX10_33 (by first | assumption | rfl) rfl ?_
    refine V_iconst (pc := 52) (v := 1) dX10_wants_52 (by decide) ?_
    refine V_aload_n (pc := 53) (i := 0) dX10_wants_53 rfl rfl ?_
    refine VW_getR (pc := 54) dX10_wants_54 fX10_22 (by first | assumption | rfl) rfl ?_
    refine V_iload_n (pc := 57) (i := 1) dX10_wants_57 rfl rfl ?_
    refine VW_ialdN (pc := 58) dX10_wants_58 (by first | assumption | rfl) rfl (by omega) (by first | decide | omega) ?_
    simp (disch := omega) only [up2_row]
    refine VW_iastN (pc := 59) dX10_wants_59 (by first | assumption | rfl) (by assumption) (j := 1) rfl (by decide) (by first | decide | omega) ?_
    refine V_aload_n (pc := 60) (i := 0) dX10_wants_60 rfl rfl ?_
    refine VW_getR (pc := 61) dX10_wants_61 fX10_33 (by first | assumption | rfl) rfl ?_
    refine V_iconst (pc := 64) (v := 2) dX10_wants_64 (by decide) ?_
    refine V_aload_n (pc := 65) (i := 0) dX10_wants_65 rfl rfl ?_
    refine VW_getR (pc := 66) dX10_wants_66 fX10_25 (by first | assumption | rfl) rfl ?_
    refine V_iload_n (pc := 69) (i := 1) dX10_wants_69 rfl rfl ?_
    refine VW_ialdN (pc := 70) dX10_wants_70 (by first | assumption | rfl) rfl (by omega) (by first | decide | omega) ?_
    simp (disch := omega) only [up2_row]
    refine VW_iastN (pc := 71) dX10_wants_71 (by first | assumption | rfl) (by assumption) (j := 2) rfl (by decide) (by first | decide | omega) ?_
    refine V_aload_n (pc := 72) (i := 0) dX10_wants_72 rfl rfl ?_
    refine VW_getR (pc := 73) dX10_wants_73 fX10_33 (by first | assumption | rfl) rfl ?_
    refine V_iconst (pc := 76) (v := 3) dX10_wants_76 (by decide) ?_
    refine V_aload_n (pc := 77) (i := 0) dX10_wants_77 rfl rfl ?_
    refine VW_getR (pc := 78) dX10_wants_78 fX10_28 (by first | assumption | rfl) rfl ?_
    refine V_iload_n (pc := 81) (i := 1) dX10_wants_81 rfl rfl ?_
    refine VW_ialdN (pc := 82) dX10_wants_82 (by first | assumption | rfl) rfl (by omega) (by first | decide | omega) ?_
    simp (disch := omega) only [up2_row]
    refine VW_iastN (pc := 83) dX10_wants_83 (by first | assumption | rfl) (by assumption) (j := 3) rfl (by decide) (by first | decide | omega) ?_
    refine V_aload_n (pc := 84) (i := 0) dX10_wants_84 rfl rfl ?_
    refine VW_getR (pc := 85) dX10_wants_85 fX10_33 (by first | assumption | rfl) rfl ?_
    refine V_iconst (pc := 88) (v := 4) dX10_wants_88 (by decide) ?_
    refine V_aload_n (pc := 89) (i := 0) dX10_wants_89 rfl rfl ?_
    refine VW_getR (pc := 90) dX10_wants_90 fX10_12 (by first | assumption | rfl) rfl ?_
    refine VW_getI (pc := 93) dX10_wants_93 fX10_94 (by first | assumption | rfl) rfl ?_
    simp (disch := omega) only [up2_row]
    refine VW_iastN (pc := 96) dX10_wants_96 (by first | assumption | rfl) (by assumption) (j := 4) rfl (by decide) (by first | decide | omega) ?_
    refine V_aload_n (pc := 97) (i := 0) dX10_wants_97 rfl rfl ?_
    refine VW_getR (pc := 98) dX10_wants_98 fX10_33 (by first | assumption | rfl) rfl ?_
    refine V_iconst (pc := 101) (v := 5) dX10_wants_101 (by decide) ?_
    refine V_aload_n (pc := 102) (i := 0) dX10_wants_102 rfl rfl ?_
    refine VW_getR (pc := 103) dX10_wants_103 fX10_12 (by first | assumption | rfl) rfl ?_
    refine VW_getR (pc := 106) dX10_wants_106 fX10_112 (by first | assumption | rfl) rfl ?_
    refine V_iload_n (pc := 109) (i := 1) dX10_wants_109 rfl rfl ?_
    refine VW_ialdN (pc := 110) dX10_wants_110 (by first | assumption | rfl) rfl (by omega) (by first | decide | omega) ?_
    simp (disch := omega) only [up2_row]
    refine VW_iastN (pc := 111) dX10_wants_111 (by first | assumption | rfl) (by assumption) (j := 5) rfl (by decide) (by first | decide | omega) ?_
    refine V_aload_n (pc := 112) (i := 0) dX10_wants_112 rfl rfl ?_
    refine VW_getR (pc := 113) dX10_wants_113 fX10_33 (by first | assumption | rfl) rfl ?_
    refine V_bipush (pc := 116) (v := 6) dX10_wants_116 (by decide) ?_
    refine V_iload_n (pc := 118) (i := 1) dX10_wants_118 rfl rfl ?_
    refine V_aload_n (pc := 119) (i := 0) dX10_wants_119 rfl rfl ?_
    refine VW_getR (pc := 120) dX10_wants_120 fX10_12 (by first | assumption | rfl) rfl ?_
    refine VW_getI (pc := 123) dX10_wants_123 fX10_85 (by first | assumption | rfl) rfl ?_
    simp (disch := omega) only [up2_row]
    refine V_SN2i (pc := 126) dX10_wants_126 cX10_74 (X11_isIn (d := 0) _ _) (Nat.le_of_ble_eq_true rfl) (by omega) (Nat.le_of_ble_eq_true rfl) ?_
    refine V_if_eq (pc := 129) 136 dX10_wants_129 rfl (fun c129 => ?_) (fun c129 => ?_)
    · refine V_iconst (pc := 136) (v := 0) dX10_wants_136 (by decide) ?_
      have e2 : ∀ v : Int32, v = b2i (hasB (S 58 7) (nI q)) → V G mX10_wants d 0 0 (xE (some (.int (b2i (decide (0 < (rkF (S (s + 7)) (wkVals S q 67) r 0 0 (S (s + 8))).1))))) (wH G b tbC (upR (wkVals S q) (s + 8) (rkF (S (s + 7)) (wkVals S q 67) r 0 0 (S (s + 8))).2) h0)) 138 [some (.ref (b + 57)), some (.int (nI q))] [] (wH G b tbC (up2 (up2 (up2 (up2 (up2 (up2 (up2 S 67 0 (S 61 q)) 67 1 (S 64 q)) 67 2 (S 65 q)) 67 3 (S 66 q)) 67 4 (S 58 6)) 67 5 (S 62 q)) 67 6 v) h0) := by
        intro v hv
        subst hv
        have q1 : S (s + 7) = wkVals S q (s + 7) := by simp (disch := omega) only [wkVals, up2_row]
        have q2 : S (s + 8) = wkVals S q (s + 8) := by simp (disch := omega) only [wkVals, up2_row]
        rw [q1, q2]
        show V G mX10_wants d 0 0 _ 138 _ _ (wH G b tbC (wkVals S q) h0)
        have hsh2 : shC (wkVals S q 57 6) = s := by
          simp (disch := omega) only [wkVals, up2_row]
          exact hsh
        have hr2 : wkVals S q (s + 6) 2 = nI r := by
          simp (disch := omega) only [wkVals, up2_row]
          exact hr
        refine V_aload_n (pc := 138) (i := 0) dX10_wants_138 rfl rfl ?_
        refine VW_getWs (pc := 139) dX10_wants_139 fX10_40 (by first | assumption | rfl) rfl (by first | assumption | (simp (disch := omega) only [up2_row, up2_col, up2_same, upR_row]; assumption)) ?_
        refine VW_getR (pc := 142) dX10_wants_142 fX10_101 (by first | assumption | rfl) rfl ?_
        refine V_aload_n (pc := 145) (i := 0) dX10_wants_145 rfl rfl ?_
        refine VW_getR (pc := 146) dX10_wants_146 fX10_33 (by first | assumption | rfl) rfl ?_
        refine V_V1i (pc := 149) dX10_wants_149 cX10_115 (by first | assumption | rfl) (X4_reckon (d := 1) a3 rfl (by omega) hr2 h7 hb (by omega)) (Nat.le_of_ble_eq_true rfl) (by omega) (Nat.le_of_ble_eq_true rfl) ?_
        refine V_if_le (pc := 152) 159 dX10_wants_152 rfl (fun c152 => ?_) (fun c152 => ?_)
        · refine V_iconst (pc := 159) (v := 0) dX10_wants_159 (by decide) ?_
          exact VE_zret (pc := 160) dX10_wants_160 rfl (Or.inl rfl) (by simp [b2i, Int32.not_lt.mpr c152]) rfl
        · refine V_iconst (pc := 155) (v := 1) dX10_wants_155 (by decide) ?_
          refine V_goto (pc := 156) 160 dX10_wants_156 rfl ?_
          exact VE_zret (pc := 160) dX10_wants_160 rfl (Or.inr rfl) (by simp [b2i, Int32.not_le.mp c152]) rfl
      first
        | (refine VW_iastN (pc := 137) (j := 6) dX10_wants_137 (by first | assumption | rfl) (by assumption) rfl (by decide) (by decide) ?_
           exact e2 _ (by rw [b2i_0.mp c129]; rfl))
        | (refine VW_iastN (pc := 137) (j := 6) dX10_wants_137 (by first | assumption | rfl) (by assumption) rfl (by decide) (by decide) ?_
           exact e2 _ (by rw [b2i_n0.mp c129]; rfl))
    · refine V_iconst (pc := 132) (v := 1) dX10_wants_132 (by decide) ?_
      refine V_goto (pc := 133) 137 dX10_wants_133 rfl ?_
      have e2 : ∀ v : Int32, v = b2i (hasB (S 58 7) (nI q)) → V G mX10_wants d 0 0 (xE (some (.int (b2i (decide (0 < (rkF (S (s + 7)) (wkVals S q 67) r 0 0 (S (s + 8))).1))))) (wH G b tbC (upR (wkVals S q) (s + 8) (rkF (S (s + 7)) (wkVals S q 67) r 0 0 (S (s + 8))).2) h0)) 138 [some (.ref (b + 57)), some (.int (nI q))] [] (wH G b tbC (up2 (up2 (up2 (up2 (up2 (up2 (up2 S 67 0 (S 61 q)) 67 1 (S 64 q)) 67 2 (S 65 q)) 67 3 (S 66 q)) 67 4 (S 58 6)) 67 5 (S 62 q)) 67 6 v) h0) := by
        intro v hv
        subst hv
        have q1 : S (s + 7) = wkVals S q (s + 7) := by simp (disch := omega) only [wkVals, up2_row]
        have q2 : S (s + 8) = wkVals S q (s + 8) := by simp (disch := omega) only [wkVals, up2_row]
        rw [q1, q2]
        show V G mX10_wants d 0 0 _ 138 _ _ (wH G b tbC (wkVals S q) h0)
        have hsh2 : shC (wkVals S q 57 6) = s := by
          simp (disch := omega) only [wkVals, up2_row]
          exact hsh
        have hr2 : wkVals S q (s + 6) 2 = nI r := by
          simp (disch := omega) only [wkVals, up2_row]
          exact hr
        refine V_aload_n (pc := 138) (i := 0) dX10_wants_138 rfl rfl ?_
        refine VW_getWs (pc := 139) dX10_wants_139 fX10_40 (by first | assumption | rfl) rfl (by first | assumption | (simp (disch := omega) only [up2_row, up2_col, up2_same, upR_row]; assumption)) ?_
        refine VW_getR (pc := 142) dX10_wants_142 fX10_101 (by first | assumption | rfl) rfl ?_
        refine V_aload_n (pc := 145) (i := 0) dX10_wants_145 rfl rfl ?_
        refine VW_getR (pc := 146) dX10_wants_146 fX10_33 (by first | assumption | rfl) rfl ?_
        refine V_V1i (pc := 149) dX10_wants_149 cX10_115 (by first | assumption | rfl) (X4_reckon (d := 1) a3 rfl (by omega) hr2 h7 hb (by omega)) (Nat.le_of_ble_eq_true rfl) (by omega) (Nat.le_of_ble_eq_true rfl) ?_
        refine V_if_le (pc := 152) 159 dX10_wants_152 rfl (fun c152 => ?_) (fun c152 => ?_)
        · refine V_iconst (pc := 159) (v := 0) dX10_wants_159 (by decide) ?_
          exact VE_zret (pc := 160) dX10_wants_160 rfl (Or.inl rfl) (by simp [b2i, Int32.not_lt.mpr c152]) rfl
        · refine V_iconst (pc := 155) (v := 1) dX10_wants_155 (by decide) ?_
          refine V_goto (pc := 156) 160 dX10_wants_156 rfl ?_
          exact VE_zret (pc := 160) dX10_wants_160 rfl (Or.inr rfl) (by simp [b2i, Int32.not_le.mp c152]) rfl
      first
        | (refine VW_iastN (pc := 137) (j := 6) dX10_wants_137 (by first | assumption | rfl) (by assumption) rfl (by decide) (by decide) ?_
           exact e2 _ (by rw [b2i_0.mp c129]; rfl))
        | (refine VW_iastN (pc := 137) (j := 6) dX10_wants_137 (by first | assumption | rfl) (by assumption) rfl (by decide) (by decide) ?_
           exact e2 _ (by rw [b2i_n0.mp c129]; rfl))
  · have e : ¬ 0 < S (s + 6) 2 := of_decide_eq_false (b2i_0.mp c10)
    rw [if_neg e]
    refine V_aload_n (pc := 13) (i := 0) dX10_wants_13 rfl rfl ?_
    refine VW_getR (pc := 14) dX10_wants_14 fX10_12 (by first | assumption | rfl) rfl ?_
    refine VW_getR (pc := 17) dX10_wants_17 fX10_109 (by first | assumption | rfl) rfl ?_
    refine V_iload_n (pc := 20) (i := 1) dX10_wants_20 rfl rfl ?_
    refine VW_ialdN (pc := 21) dX10_wants_21 (by first | assumption | rfl) rfl (by omega) (by first | decide | omega) ?_
    refine V_bipush (pc := 22) (v := 10) dX10_wants_22 (by decide) ?_
    refine V_icmp_lt (pc := 24) 31 dX10_wants_24 rfl (fun c24 => ?_) (fun c24 => ?_)
    · have c25 : ¬ 10 ≤ S 61 q := Int32.not_le.mpr c24
      refine V_iconst (pc := 31) (v := 0) dX10_wants_31 (by decide) ?_
      exact VE_zret (pc := 32) dX10_wants_32 rfl (by first | exact Or.inl rfl | exact Or.inr rfl) (by simp [b2i, c25]) rfl
    · have c25 : 10 ≤ S 61 q := Int32.not_lt.mp c24
      refine V_iconst (pc := 27) (v := 1) dX10_wants_27 (by decide) ?_
      refine V_goto (pc := 28) 32 dX10_wants_28 rfl ?_
      exact VE_zret (pc := 32) dX10_wants_32 rfl (by first | exact Or.inl rfl | exact Or.inr rfl) (by simp [b2i, c25]) rfl
end Wk3
