/-! ===== Rule.reckon; Walk ===== -/
section Wk
variable {G : xG} {d bc bs : Nat} {b : Nat} {tb : xTb} {S : Nat → Nat → Int32} {h0 h : xH}
theorem up2_upR {k j : Nat} {f : Nat → Int32} {x : Int32} : up2 (upR S k f) k j x = upR S k (upd f j x) := by
  funext k' j'
  by_cases h : k' = k
  · subst h; simp [up2, upR]
  · simp [up2, upR, h]
theorem dec1 {t : Nat} (h : 1 ≤ t) : nI t + Int32.ofInt (-1) = nI (t - 1) := by
  obtain ⟨t', rfl⟩ : ∃ t', t = t' + 1 := ⟨t - 1, by omega⟩
  exact pk_m1 t'
theorem i32_toInt_sub {x : Int32} (h1 : ¬ x ≤ 9999) (h2 : x ≤ 10006) : vp_in (x - 10000) 7 := by
  have a1 : (9999 : Int) < x.toInt := by
    have := Int32.not_le.mp h1
    simpa using Int32.lt_iff_toInt_lt.mp this
  have a2 : x.toInt ≤ 10006 := by simpa using Int32.le_iff_toInt_le.mp h2
  have e : (x - 10000).toInt = x.toInt - 10000 := by
    rw [Int32.toInt_sub]
    show (x.toInt - 10000).bmod (2 ^ 32) = _
    rw [Int.bmod_eq_of_le] <;> omega
  exact vp_in_iff.mpr ⟨by omega, by omega⟩
theorem X4_reckon {k kv n : Nat} (hs : RuleAt tb k) (hv : tb[kv]? = some (.inl (0, 7))) (hkv : kv ≠ k ∧ kv ≠ k + 1 ∧ kv ≠ k + 2) (hn : S k 2 = nI n) (h7 : n ≤ 700) (hb : gB G ≤ b) (hd : 1 ≤ d) :
    VM G mX4_reckon d 0 0 [.ref (b + k), .ref (b + kv)] (xE (some (.int (rkF (S (k + 1)) (S kv) n 0 0 (S (k + 2))).1)) (wH G b tb (upR S (k + 2) (rkF (S (k + 1)) (S kv) n 0 0 (S (k + 2))).2) h0)) (wH G b tb S h0) := by
  obtain ⟨k0, k1, k2⟩ := hs
  refine VM_start (ls := [some (.ref (b + k)), some (.ref (b + kv)), none, none, none]) rfl ?_
  -- %m X4_reckon
  refine V_iconst (pc := 0) (v := 0) dX4_reckon_0 (by decide) ?_
  refine V_istore_n (pc := 1) (i := 2) dX4_reckon_1 rfl (by decide) rfl ?_
  refine V_iconst (pc := 2) (v := 0) dX4_reckon_2 (by decide) ?_
  refine V_istore_n (pc := 3) (i := 3) dX4_reckon_3 rfl (by decide) rfl ?_
  have e0 : wH G b tb S h0 = wH G b tb (upR S (k + 2) (S (k + 2))) h0 := by
    congr 1
    funext k' j
    by_cases h : k' = k + 2
    · subst h; rw [upR_same]
    · rw [upR_row h]
  have loop : ∀ (m i t : Nat) (f : Nat → Int32), m + i = n → t ≤ 64 → V G mX4_reckon d 0 0 (xE (some (.int (rkF (S (k + 1)) (S kv) m i t f).1)) (wH G b tb (upR S (k + 2) (rkF (S (k + 1)) (S kv) m i t f).2) h0)) 4 [some (.ref (b + k)), some (.ref (b + kv)), some (.int (nI t)), some (.int (nI i)), none] [] (wH G b tb (upR S (k + 2) f) h0) := by
    intro m
    induction m with
    | zero =>
      intro i t f hm ht
      refine V_iload_n (pc := 4) (i := 3) dX4_reckon_4 rfl rfl ?_
      refine V_aload_n (pc := 5) (i := 0) dX4_reckon_5 rfl rfl ?_
      refine VW_getI (pc := 6) dX4_reckon_6 fX4_18 (by first | assumption | rfl) rfl ?_
      simp (disch := omega) only [upR_row]
      refine V_icmp_ge (pc := 9) 159 dX4_reckon_9 rfl (fun c9 => ?_) (fun c9 => ?_)
      · refine V_iload_n (pc := 159) (i := 2) dX4_reckon_159 rfl rfl ?_
        refine V_iconst (pc := 160) (v := 1) dX4_reckon_160 (by decide) ?_
        refine V_icmp_ne (pc := 161) 173 dX4_reckon_161 rfl (fun c161 => ?_) (fun c161 => ?_)
        · have ht1 : ¬ t = 1 := fun q => c161 (by rw [q]; rfl)
          refine V_iconst (pc := 173) (v := 0) dX4_reckon_173 (by decide) ?_
          exact VE_iret (pc := 174) dX4_reckon_174 rfl (by simp only [rkF, ht1, upR_same, if_true, if_false]) rfl
        · have ht1 : t = 1 := (nI_eq (by omega) (by omega)).mp (show nI t = nI 1 from c161)
          refine V_aload_n (pc := 164) (i := 0) dX4_reckon_164 rfl rfl ?_
          refine VW_getR (pc := 165) dX4_reckon_165 fX4_15 (by first | assumption | rfl) rfl ?_
          refine V_iconst (pc := 168) (v := 0) dX4_reckon_168 (by decide) ?_
          refine VW_ialdN (pc := 169) dX4_reckon_169 (by first | assumption | rfl) (j := 0) rfl (by decide) (by first | decide | omega) ?_
          refine V_goto (pc := 170) 174 dX4_reckon_170 rfl ?_
          exact VE_iret (pc := 174) dX4_reckon_174 rfl (by simp only [rkF, ht1, upR_same, if_true, if_false]) rfl
      · exact absurd (by rw [hn, show i = n by omega]; exact nI_le (by omega) (by omega)) c9
    | succ m ih =>
      intro i t f hm ht
      have hi : i < 700 := by omega
      rw [rkF]
      refine V_iload_n (pc := 4) (i := 3) dX4_reckon_4 rfl rfl ?_
      refine V_aload_n (pc := 5) (i := 0) dX4_reckon_5 rfl rfl ?_
      refine VW_getI (pc := 6) dX4_reckon_6 fX4_18 (by first | assumption | rfl) rfl ?_
      simp (disch := omega) only [upR_row]
      refine V_icmp_ge (pc := 9) 159 dX4_reckon_9 rfl (fun c9 => ?_) (fun c9 => ?_)
      · exact absurd c9 (by rw [hn]; exact nI_ge (by omega) (by omega))
      · refine V_aload_n (pc := 12) (i := 0) dX4_reckon_12 rfl rfl ?_
        refine VW_getR (pc := 13) dX4_reckon_13 fX4_9 (by first | assumption | rfl) rfl ?_
        refine V_iload_n (pc := 16) (i := 3) dX4_reckon_16 rfl rfl ?_
        refine VW_ialdN (pc := 17) dX4_reckon_17 (by first | assumption | rfl) rfl (by omega) (by first | decide | omega) ?_
        simp (disch := omega) only [upR_row]
        refine V_istore (pc := 18) dX4_reckon_18 (by decide) rfl ?_
        refine V_iload (pc := 20) dX4_reckon_20 rfl ?_
        refine V_sipush (pc := 22) (v := 10006) dX4_reckon_22 (by decide) ?_
        refine V_icmp_gt (pc := 25) 72 dX4_reckon_25 rfl (fun c25 => ?_) (fun c25 => ?_)
        · rw [if_neg (Int32.not_le.mpr c25)]
          refine V_iload (pc := 72) dX4_reckon_72 rfl ?_
          refine V_sipush (pc := 74) (v := 10007) dX4_reckon_74 (by decide) ?_
          refine V_icmp_ne (pc := 77) 114 dX4_reckon_77 rfl (fun c77 => ?_) (fun c77 => ?_)
          · rw [if_neg c77]
            refine V_iload_n (pc := 114) (i := 2) dX4_reckon_114 rfl rfl ?_
            refine V_iconst (pc := 115) (v := 2) dX4_reckon_115 (by decide) ?_
            refine V_icmp_ge (pc := 116) 121 dX4_reckon_116 rfl (fun c116 => ?_) (fun c116 => ?_)
            · have ht2 : 2 ≤ t := (nI_leI (by omega) (by omega)).mp (show nI 2 ≤ nI t from c116)
              rw [if_neg (Nat.not_lt.mpr ht2)]
              refine V_aload_n (pc := 121) (i := 0) dX4_reckon_121 rfl rfl ?_
              refine VW_getR (pc := 122) dX4_reckon_122 fX4_15 (by first | assumption | rfl) rfl ?_
              refine V_iload_n (pc := 125) (i := 2) dX4_reckon_125 rfl rfl ?_
              refine V_iconst (pc := 126) (v := 2) dX4_reckon_126 (by decide) ?_
              refine V_isub (pc := 127) dX4_reckon_127 ?_
              refine V_iload (pc := 128) dX4_reckon_128 rfl ?_
              refine V_aload_n (pc := 130) (i := 0) dX4_reckon_130 rfl rfl ?_
              refine VW_getR (pc := 131) dX4_reckon_131 fX4_15 (by first | assumption | rfl) rfl ?_
              refine V_iload_n (pc := 134) (i := 2) dX4_reckon_134 rfl rfl ?_
              refine V_iconst (pc := 135) (v := 2) dX4_reckon_135 (by decide) ?_
              refine V_isub (pc := 136) dX4_reckon_136 ?_
              refine VW_ialdN (pc := 137) dX4_reckon_137 (by first | assumption | rfl) (pk_sub (b := 2) (by omega)) (by omega) (by first | decide | omega) ?_
              refine V_aload_n (pc := 138) (i := 0) dX4_reckon_138 rfl rfl ?_
              refine VW_getR (pc := 139) dX4_reckon_139 fX4_15 (by first | assumption | rfl) rfl ?_
              refine V_iload_n (pc := 142) (i := 2) dX4_reckon_142 rfl rfl ?_
              refine V_iconst (pc := 143) (v := 1) dX4_reckon_143 (by decide) ?_
              refine V_isub (pc := 144) dX4_reckon_144 ?_
              refine VW_ialdN (pc := 145) dX4_reckon_145 (by first | assumption | rfl) (pk_sub (b := 1) (by omega)) (by omega) (by first | decide | omega) ?_
              rw [upR_same]
              refine V_S3i (pc := 146) dX4_reckon_146 cX4_22 (X4_applied (d := 0) _ _ _ (by
                have q1 := Int32.lt_iff_toInt_lt.mp c25
                have q2 := lv_neT c77 (a := 10007) (by decide)
                exact Int32.lt_iff_toInt_lt.mpr (by
                  have q3 : (10006 : Int32).toInt = 10006 := by decide
                  have q4 : (10007 : Int32).toInt = 10007 := by decide
                  omega))) (Nat.le_of_ble_eq_true rfl) (by omega) (Nat.le_of_ble_eq_true rfl) ?_
              refine VW_iastN (pc := 149) dX4_reckon_149 (by first | assumption | rfl) (by assumption) (pk_sub (b := 2) (by omega)) (by omega) (by first | decide | omega) ?_
              rw [up2_upR]
              refine V_iinc (pc := 150) dX4_reckon_150 (by decide) rfl rfl (dec1 (by omega)) ?_
              refine V_iinc (pc := 153) dX4_reckon_153 (by decide) rfl rfl (iincN (n := 1) (by decide)) ?_
              refine V_goto (pc := 156) 4 dX4_reckon_156 rfl ?_
              first
                | exact V_forget 4 (ih (i + 1) (t + 1) _ (by omega) (by omega))
                | exact V_forget 4 (ih (i + 1) t _ (by omega) (by omega))
                | exact V_forget 4 (ih (i + 1) (t - 1) _ (by omega) (by omega))
            · have ht2 : t < 2 := (nI_ltI (by omega) (by omega)).mp (show nI t < nI 2 from Int32.not_le.mp c116)
              rw [if_pos ht2]
              refine V_iconst (pc := 119) (v := 0) dX4_reckon_119 (by decide) ?_
              exact VE_iret (pc := 120) dX4_reckon_120 rfl rfl rfl
          · rw [if_pos c77]
            refine V_iload_n (pc := 80) (i := 2) dX4_reckon_80 rfl rfl ?_
            refine V_iconst (pc := 81) (v := 1) dX4_reckon_81 (by decide) ?_
            refine V_icmp_ge (pc := 82) 87 dX4_reckon_82 rfl (fun c82 => ?_) (fun c82 => ?_)
            · have ht1 : 1 ≤ t := (nI_leI (by omega) (by omega)).mp (show nI 1 ≤ nI t from c82)
              rw [if_neg (Nat.not_lt.mpr ht1)]
              refine V_aload_n (pc := 87) (i := 0) dX4_reckon_87 rfl rfl ?_
              refine VW_getR (pc := 88) dX4_reckon_88 fX4_15 (by first | assumption | rfl) rfl ?_
              refine V_iload_n (pc := 91) (i := 2) dX4_reckon_91 rfl rfl ?_
              refine V_iconst (pc := 92) (v := 1) dX4_reckon_92 (by decide) ?_
              refine V_isub (pc := 93) dX4_reckon_93 ?_
              refine V_aload_n (pc := 94) (i := 0) dX4_reckon_94 rfl rfl ?_
              refine VW_getR (pc := 95) dX4_reckon_95 fX4_15 (by first | assumption | rfl) rfl ?_
              refine V_iload_n (pc := 98) (i := 2) dX4_reckon_98 rfl rfl ?_
              refine V_iconst (pc := 99) (v := 1) dX4_reckon_99 (by decide) ?_
              refine V_isub (pc := 100) dX4_reckon_100 ?_
              refine VW_ialdN (pc := 101) dX4_reckon_101 (by first | assumption | rfl) (pk_sub (b := 1) (by omega)) (by omega) (by first | decide | omega) ?_
              rw [upR_same]
              refine V_if_ne (pc := 102) 109 dX4_reckon_102 rfl (fun c102 => ?_) (fun c102 => ?_)
              · rw [if_neg c102]
                refine V_iconst (pc := 109) (v := 0) dX4_reckon_109 (by decide) ?_
                refine VW_iastN (pc := 110) dX4_reckon_110 (by first | assumption | rfl) (by assumption) (pk_sub (b := 1) (by omega)) (by omega) (by first | decide | omega) ?_
                rw [up2_upR]
                refine V_goto (pc := 111) 153 dX4_reckon_111 rfl ?_
                refine V_iinc (pc := 153) dX4_reckon_153 (by decide) rfl rfl (iincN (n := 1) (by decide)) ?_
                refine V_goto (pc := 156) 4 dX4_reckon_156 rfl ?_
                first
                  | exact V_forget 4 (ih (i + 1) (t + 1) _ (by omega) (by omega))
                  | exact V_forget 4 (ih (i + 1) t _ (by omega) (by omega))
                  | exact V_forget 4 (ih (i + 1) (t - 1) _ (by omega) (by omega))
              · rw [if_pos c102]
                refine V_iconst (pc := 105) (v := 1) dX4_reckon_105 (by decide) ?_
                refine V_goto (pc := 106) 110 dX4_reckon_106 rfl ?_
                refine VW_iastN (pc := 110) dX4_reckon_110 (by first | assumption | rfl) (by assumption) (pk_sub (b := 1) (by omega)) (by omega) (by first | decide | omega) ?_
                rw [up2_upR]
                refine V_goto (pc := 111) 153 dX4_reckon_111 rfl ?_
                refine V_iinc (pc := 153) dX4_reckon_153 (by decide) rfl rfl (iincN (n := 1) (by decide)) ?_
                refine V_goto (pc := 156) 4 dX4_reckon_156 rfl ?_
                first
                  | exact V_forget 4 (ih (i + 1) (t + 1) _ (by omega) (by omega))
                  | exact V_forget 4 (ih (i + 1) t _ (by omega) (by omega))
                  | exact V_forget 4 (ih (i + 1) (t - 1) _ (by omega) (by omega))
            · have ht1 : t < 1 := (nI_ltI (by omega) (by omega)).mp (show nI t < nI 1 from Int32.not_le.mp c82)
              rw [if_pos ht1]
              refine V_iconst (pc := 85) (v := 0) dX4_reckon_85 (by decide) ?_
              exact VE_iret (pc := 86) dX4_reckon_86 rfl rfl rfl
        · have d25 : S (k + 1) i ≤ 10006 := Int32.not_lt.mp c25
          rw [if_pos d25]
          refine V_iload_n (pc := 28) (i := 2) dX4_reckon_28 rfl rfl ?_
          refine V_aload_n (pc := 29) (i := 0) dX4_reckon_29 rfl rfl ?_
          refine VW_getR (pc := 30) dX4_reckon_30 fX4_15 (by first | assumption | rfl) rfl ?_
          refine VW_alen (pc := 33) dX4_reckon_33 (by first | assumption | rfl) (by decide) rfl ?_
          refine V_icmp_lt (pc := 34) 39 dX4_reckon_34 rfl (fun c34 => ?_) (fun c34 => ?_)
          · have ht64 : t < 64 := (nI_ltI (by omega) (by omega)).mp (show nI t < nI 64 from c34)
            rw [if_neg (Nat.not_le.mpr ht64)]
            refine V_aload_n (pc := 39) (i := 0) dX4_reckon_39 rfl rfl ?_
            refine VW_getR (pc := 40) dX4_reckon_40 fX4_15 (by first | assumption | rfl) rfl ?_
            refine V_iload_n (pc := 43) (i := 2) dX4_reckon_43 rfl rfl ?_
            refine V_iload (pc := 44) dX4_reckon_44 rfl ?_
            refine V_sipush (pc := 46) (v := 9999) dX4_reckon_46 (by decide) ?_
            refine V_icmp_gt (pc := 49) 57 dX4_reckon_49 rfl (fun c49 => ?_) (fun c49 => ?_)
            · have d49 : ¬ S (k + 1) i ≤ 9999 := Int32.not_le.mpr c49
              rw [if_neg d49]
              refine V_aload_n (pc := 57) (i := 1) dX4_reckon_57 rfl rfl ?_
              refine V_iload (pc := 58) dX4_reckon_58 rfl ?_
              refine V_sipush (pc := 60) (v := 10000) dX4_reckon_60 (by decide) ?_
              refine V_isub (pc := 63) dX4_reckon_63 ?_
              refine VW_iald (pc := 64) dX4_reckon_64 (by first | assumption | rfl) (i32_toInt_sub d49 d25) ?_
              (try simp (disch := omega) only [upR_row])
              refine VW_iastN (pc := 65) dX4_reckon_65 (by first | assumption | rfl) (by assumption) rfl (by omega) (by first | decide | omega) ?_
              rw [up2_upR]
              refine V_iinc (pc := 66) dX4_reckon_66 (by decide) rfl rfl (iincN (n := 1) (by decide)) ?_
              refine V_goto (pc := 69) 153 dX4_reckon_69 rfl ?_
              refine V_iinc (pc := 153) dX4_reckon_153 (by decide) rfl rfl (iincN (n := 1) (by decide)) ?_
              refine V_goto (pc := 156) 4 dX4_reckon_156 rfl ?_
              first
                | exact V_forget 4 (ih (i + 1) (t + 1) _ (by omega) (by omega))
                | exact V_forget 4 (ih (i + 1) t _ (by omega) (by omega))
                | exact V_forget 4 (ih (i + 1) (t - 1) _ (by omega) (by omega))
            · rw [if_pos (Int32.not_lt.mp c49)]
              refine V_iload (pc := 52) dX4_reckon_52 rfl ?_
              refine V_goto (pc := 54) 65 dX4_reckon_54 rfl ?_
              (try simp (disch := omega) only [upR_row])
              refine VW_iastN (pc := 65) dX4_reckon_65 (by first | assumption | rfl) (by assumption) rfl (by omega) (by first | decide | omega) ?_
              rw [up2_upR]
              refine V_iinc (pc := 66) dX4_reckon_66 (by decide) rfl rfl (iincN (n := 1) (by decide)) ?_
              refine V_goto (pc := 69) 153 dX4_reckon_69 rfl ?_
              refine V_iinc (pc := 153) dX4_reckon_153 (by decide) rfl rfl (iincN (n := 1) (by decide)) ?_
              refine V_goto (pc := 156) 4 dX4_reckon_156 rfl ?_
              first
                | exact V_forget 4 (ih (i + 1) (t + 1) _ (by omega) (by omega))
                | exact V_forget 4 (ih (i + 1) t _ (by omega) (by omega))
                | exact V_forget 4 (ih (i + 1) (t - 1) _ (by omega) (by omega))
          · have ht64 : 64 ≤ t := (nI_leI (by omega) (by omega)).mp (show nI 64 ≤ nI t from Int32.not_lt.mp c34)
            rw [if_pos ht64]
            refine V_iconst (pc := 37) (v := 0) dX4_reckon_37 (by decide) ?_
            exact VE_iret (pc := 38) dX4_reckon_38 rfl rfl rfl
  rw [e0]
  exact loop n 0 0 _ rfl (by omega)
end Wk
