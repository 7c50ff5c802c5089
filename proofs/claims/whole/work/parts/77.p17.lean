/-! ===== the model: shore, beside the class's ===== -/
section P16
variable {G : xG} {d : Nat} {b : Nat} {S S' S1 T T1 U W Z : Nat → Nat → Int32} {h0 h : xH} {t : Nat}
theorem X12_shore_bad {x : Int32} (hx : x < 0 ∨ S 0 16 < x) (hb : gB G ≤ b) (hd : 1 ≤ d) : VM G mX12_shore d 0 0 [.ref (b + 0), .int x] (xE (some (.int 0)) (wH G b tbM (up2 (up2 S 0 2 0) 0 2 1) h0)) (wH G b tbM S h0) := by
  refine VM_start (ls := [some (.ref (b + 0)), some (.int x), none]) rfl ?_
  -- %m X12_shore
  refine V_aload_n (pc := 0) (i := 0) dX12_shore_0 rfl rfl ?_
  refine V_iconst (pc := 1) (v := 0) dX12_shore_1 (by decide) ?_
  refine VW_putI (pc := 2) dX12_shore_2 fX12_139 ftX12 (fpI rfl rfl (tyX12_ok 2 (by decide))) (by first | assumption | rfl) rfl (by assumption) ?_
  refine V_iload_n (pc := 5) (i := 1) dX12_shore_5 rfl rfl ?_
  refine V_if_lt (pc := 6) 17 dX12_shore_6 rfl (fun c6 => ?_) (fun c6 => ?_)
  · refine V_aload_n (pc := 17) (i := 0) dX12_shore_17 rfl rfl ?_
    refine V_iconst (pc := 18) (v := 1) dX12_shore_18 (by decide) ?_
    refine V_V1i (pc := 19) dX12_shore_19 cX12_287 (by first | assumption | rfl) (X12_fail (d := 0) 1 hb) (Nat.le_of_ble_eq_true rfl) (by omega) (Nat.le_of_ble_eq_true rfl) ?_
    exact VE_iret (pc := 22) dX12_shore_22 rfl rfl rfl
  · refine V_iload_n (pc := 9) (i := 1) dX12_shore_9 rfl rfl ?_
    refine V_aload_n (pc := 10) (i := 0) dX12_shore_10 rfl rfl ?_
    refine VW_getI (pc := 11) dX12_shore_11 fX12_150 (by first | assumption | rfl) rfl ?_
    rw [up2_col (by decide)]
    refine V_icmp_le (pc := 14) 23 dX12_shore_14 rfl (fun c14 => ?_) (fun c14 => ?_)
    · exact hx.elim (fun q => absurd q c6) (fun q => absurd c14 (Int32.not_le.mpr q))
    · refine V_aload_n (pc := 17) (i := 0) dX12_shore_17 rfl rfl ?_
      refine V_iconst (pc := 18) (v := 1) dX12_shore_18 (by decide) ?_
      refine V_V1i (pc := 19) dX12_shore_19 cX12_287 (by first | assumption | rfl) (X12_fail (d := 0) 1 hb) (Nat.le_of_ble_eq_true rfl) (by omega) (Nat.le_of_ble_eq_true rfl) ?_
      exact VE_iret (pc := 22) dX12_shore_22 rfl rfl rfl
/-- what comes of a text: R is the class's, Z the model ahead of it -/
def SQ (Z : Nat → Nat → Int32) (t : Nat) (R : Int32 × (Nat → Nat → Int32)) : Int32 → (Nat → Nat → Int32) → Prop := fun v T' => (R.1 = 0 ∧ v = 0 ∧ ∃ T1 dn pp, RTk R.2 T1 ∧ RD R.2 T1 t dn ∧ FR Z T1 ∧ T1 3 4 = nI pp ∧ pp ≤ 8 ∧ T' = tkO T1 pp) ∨ (¬ R.1 = 0 ∧ v = R.1 ∧ ∃ T1, RB R.2 T1 ∧ FR Z T1 ∧ T' = up2 (up2 T1 0 25 (T1 0 24)) 14 0 (T1 14 0 + 1))
theorem RD_4 {dn : Nat} (rd : RD S T t dn) : ∃ pp, T 3 4 = nI pp ∧ pp ≤ 8 := by
  obtain ⟨pp, n, rr, ht, h1, -⟩ := rd
  exact ⟨pp, h1.2.1, h1.2.2⟩
theorem X12_shore_114 {Zc : Nat → Nat → Int32} {n : Nat} (hn : n ≤ 700) (x : Int32) (hb : gB G ≤ b) (hd : 45 ≤ d) : ∀ (m dn : Nat) (S1 T1 : Nat → Nat → Int32), n + 1 ≤ m + tP S1 → tL S1 = n → RTk S1 T1 → T1 0 23 = 0 → RD S1 T1 t dn → PI Zc S1 t → FR Z T1 → V G mX12_shore d 0 0 (xIm G b h0 (SQ Z t (rdLs t m S1))) 114 [some (.ref (b + 0)), some (.int x), some (.int (nI dn))] [] (wH G b tbM T1 h0) := by
  intro m
  -- %m X12_shore
  induction m with
  | zero =>
    intro dn S1 T1 hm hL r h0' rd pi fr
    have h7 := tP7 r
    omega
  | succ m ih =>
    intro dn S1 T1 hm hL r h0' rd pi fr
    rw [rdLs]
    refine V_aload_n (pc := 114) (i := 0) dX12_shore_114 rfl rfl ?_
    refine VW_getI (pc := 115) dX12_shore_115 fX12_192 (by first | assumption | rfl) rfl ?_
    refine V_if_ne (pc := 118) 137 dX12_shore_118 rfl (fun c => absurd h0' c) (fun _ => ?_)
    refine V_aload_n (pc := 121) (i := 0) dX12_shore_121 rfl rfl ?_
    refine VW_getI (pc := 122) dX12_shore_122 fX12_166 (by first | assumption | rfl) rfl ?_
    rw [← r.2.2.1]
    refine V_if_eq (pc := 125) 137 dX12_shore_125 rfl (fun c125 => ?_) (fun c125 => ?_)
    · rw [if_pos c125]
      obtain ⟨pp, hp, h8⟩ := RD_4 rd
      refine V_aload_n (pc := 137) (i := 0) dX12_shore_137 rfl rfl ?_
      refine VW_getI (pc := 138) dX12_shore_138 fX12_192 (by first | assumption | rfl) rfl ?_
      refine V_if_eq (pc := 141) 167 dX12_shore_141 rfl (fun _ => ?_) (fun c => absurd h0' c)
      refine V_aload_n (pc := 167) (i := 0) dX12_shore_167 rfl rfl ?_
      refine V_V0v (pc := 168) dX12_shore_168 cX12_293 (by first | assumption | rfl) (X12_takeOver (d := 1) hp h8 hb (by omega)) (Nat.le_of_ble_eq_true rfl) (by omega) (Nat.le_of_ble_eq_true rfl) ?_
      refine V_iconst (pc := 171) (v := 0) dX12_shore_171 (by decide) ?_
      exact V_iret (pc := 172) dX12_shore_172 rfl ⟨_, _, rfl, rfl, Or.inl ⟨rfl, rfl, T1, dn, pp, r, rd, fr, hp, h8, rfl⟩⟩
    · rw [if_neg c125]
      refine V_aload_n (pc := 128) (i := 0) dX12_shore_128 rfl rfl ?_
      refine V_iload_n (pc := 129) (i := 2) dX12_shore_129 rfl rfl ?_
      refine V_X1i (pc := 130) dX12_shore_130 cX12_290 rfl (X12_readLine (d := 44) r h0' rd pi.2.1 hb (by omega)) (Nat.le_of_ble_eq_true rfl) (by omega) (Nat.le_of_ble_eq_true rfl) (fun v T2 q => ?_)
      obtain ⟨dn', lq, hv⟩ := q
      unfold LQ at lq
      by_cases ok : (rdLine t S1).1 = true
      · rw [if_pos ok] at lq ⊢
        obtain ⟨l1, l2, l3, l4⟩ := lq
        have hP := line_P r.1 (PI_or pi) ok
        have hlt := RTk_lt r c125
        have hA := adv_P r
        have hL2 : tL (rdLine t S1).2 = n := by
          have e1 := l1.2.1.1
          have e2 := r.2.1.1
          rw [l4.2.2 18 (by omega), e2, hL] at e1
          exact ((nI_eq (by omega) (by have := l1.2.1.2.1; omega)).mp e1).symm
        rw [hv ok]
        refine V_istore_n (pc := 133) (i := 2) dX12_shore_133 rfl (by decide) rfl ?_
        refine V_goto (pc := 134) 114 dX12_shore_134 rfl ?_
        exact ih dn' _ T2 (by omega) hL2 l1 l2 l3 (PI_rdLine pi) (fr.trans l4)
      · rw [if_neg ok] at lq ⊢
        obtain ⟨⟨l1, l2, l3⟩, l4⟩ := lq
        refine V_istore_n (pc := 133) (i := 2) dX12_shore_133 rfl (by decide) rfl ?_
        refine V_goto (pc := 134) 114 dX12_shore_134 rfl ?_
        refine V_aload_n (pc := 114) (i := 0) dX12_shore_114 rfl rfl ?_
        refine VW_getI (pc := 115) dX12_shore_115 fX12_192 (by first | assumption | rfl) rfl ?_
        refine V_if_ne (pc := 118) 137 dX12_shore_118 rfl (fun _ => ?_) (fun c => absurd c l1)
        refine V_aload_n (pc := 137) (i := 0) dX12_shore_137 rfl rfl ?_
        refine VW_getI (pc := 138) dX12_shore_138 fX12_192 (by first | assumption | rfl) rfl ?_
        refine V_if_eq (pc := 141) 167 dX12_shore_141 rfl (fun c => absurd c l1) (fun _ => ?_)
        refine V_aload_n (pc := 144) (i := 0) dX12_shore_144 rfl rfl ?_
        refine V_aload_n (pc := 145) (i := 0) dX12_shore_145 rfl rfl ?_
        refine VW_getI (pc := 146) dX12_shore_146 fX12_195 (by first | assumption | rfl) rfl ?_
        refine VW_putI (pc := 149) dX12_shore_149 fX12_76 ftX12 (fpI rfl rfl (tyX12_ok 25 (by decide))) (by first | assumption | rfl) rfl (by assumption) ?_
        refine V_aload_n (pc := 152) (i := 0) dX12_shore_152 rfl rfl ?_
        refine VW_getR (pc := 153) dX12_shore_153 fX12_70 (by first | assumption | rfl) rfl ?_
        refine V_iconst (pc := 156) (v := 0) dX12_shore_156 (by decide) ?_
        refine V_dup2 (pc := 157) dX12_shore_157 rfl rfl ?_
        refine VW_ialdN (pc := 158) dX12_shore_158 rfl (j := 0) rfl (by decide) (by decide) ?_
        rw [up2_row (by decide)]
        refine V_iconst (pc := 159) (v := 1) dX12_shore_159 (by decide) ?_
        refine V_iadd (pc := 160) dX12_shore_160 ?_
        refine VW_iastN (pc := 161) dX12_shore_161 (by first | assumption | rfl) (by assumption) (j := 0) rfl (by decide) (by first | decide | omega) ?_
        refine V_aload_n (pc := 162) (i := 0) dX12_shore_162 rfl rfl ?_
        refine VW_getI (pc := 163) dX12_shore_163 fX12_192 (by first | assumption | rfl) rfl ?_
        rw [up2_row (by decide), up2_col (by decide)]
        refine V_iret (pc := 166) dX12_shore_166 rfl ⟨_, _, rfl, rfl, Or.inr ⟨?_, l2, T2, ⟨l1, l2, l3⟩, fr.trans l4, rfl⟩⟩
        rw [← l2]; exact l1
/-- the model ahead of a text of n bytes -/
def shT1 (T : Nat → Nat → Int32) (n : Nat) : Nat → Nat → Int32 := up2 (up2 (up2 (up2 (up2 (up2 (up2 T 0 2 0) 0 16 0) 0 18 (nI n)) 0 17 0) 0 23 0) 0 25 (-1)) 0 26 0
def shT2 (T : Nat → Nat → Int32) (n : Nat) : Nat → Nat → Int32 := up2 (up2 (up2 (up2 (shT1 T n) 3 4 0) 3 5 0) 3 6 4) 3 7 0
def shT (T : Nat → Nat → Int32) (n : Nat) : Nat → Nat → Int32 := upR (shT2 T n) 4 (fillR (shT2 T n 4) 0 10 20)
theorem shT_off {n k : Nat} (h0 : k ≠ 0) (h3 : k ≠ 3) (h4 : k ≠ 4) : shT T n k = T k := by
  unfold shT shT2 shT1
  rw [upR_row h4]
  simp (disch := omega) only [up2_row]
theorem RD_start {n : Nat} (ht : t = 4 ∨ t = 44) : RD (rd0 S t n) (mStep (shT T n) n 0) t 0 := by
  unfold rd0
  have hr : ∀ k, k ≠ 2 → strt (shClear (up2 (up2 S 1 2 0) 1 3 (-1)) t) n k = shClear (up2 (up2 S 1 2 0) 1 3 (-1)) t k := fun k hk => strt_off hk
  have hm : ∀ k, k ≠ 0 → mStep (shT T n) n 0 k = shT T n k := fun k hk => mStep_off hk
  refine ⟨0, 0, 0, ht, ?_, ?_, ?_, ?_, ?_, fun q hq => absurd hq (by omega), fun q hq => absurd hq (by omega), ?_⟩
  · rw [hr t (by omega), hm 3 (by decide)]
    unfold shClear shT shT2
    simp (disch := omega) only [up2_row, up2_col, up2_same, upR_row]
    exact ⟨rfl, rfl, by decide⟩
  · rw [hr (t + 2) (by omega), hm 3 (by decide)]
    unfold shClear shT shT2
    simp (disch := omega) only [up2_row, up2_col, up2_same, upR_row]
    exact ⟨rfl, rfl, by decide, lowB_0 0⟩
  · rw [hr t (by omega), hm 3 (by decide)]
    unfold shClear shT shT2
    simp (disch := omega) only [up2_row, up2_col, up2_same, upR_row]
    exact ⟨trivial, 4, by decide, by decide, rfl⟩
  · rw [hr (t + 6) (by omega), hm 3 (by decide)]
    unfold shClear shT shT2
    simp (disch := omega) only [up2_row, up2_col, up2_same, upR_row]
    exact ⟨rfl, rfl, by decide, fun i hi => absurd hi (by omega), fun q => absurd q (by omega)⟩
  · rw [hr t (by omega), hr (t + 1) (by omega), hm 4 (by decide), mStep_0 (by omega)]
    unfold shClear shT
    simp (disch := omega) only [up2_row, up2_col, up2_same, upR_row, upR_same]
    refine ⟨fun i hi => ?_, ?_⟩
    · unfold fillR
      rw [if_pos (by omega), if_pos (by omega)]
    · unfold shT2 shT1
      simp (disch := omega) only [up2_row, up2_col, up2_same]
  · rw [hr t (by omega)]
    unfold shClear
    simp (disch := omega) only [up2_row, up2_col, up2_same]
    exact ⟨rfl, by decide, by decide⟩
theorem X12_shore {z n : Nat} (hz : T 0 16 = nI z) (h7 : z ≤ 700) (hn : n ≤ z) (bo : BO T) (hB : ∀ k, k < z → T 15 k = S 3 k &&& 255) (hsh : shC (S 1 1) = t) (hb : gB G ≤ b) (hd : 45 ≤ d) : VM G mX12_shore d 0 0 [.ref (b + 0), .int (nI n)] (xIm G b h0 (SQ (shT T n) t (rdT S t n))) (wH G b tbM T h0) := by
  have ht : t = 4 ∨ t = 44 := by have := shC_or (S 1 1); rw [hsh] at this; exact this
  have e15 : shT T n 15 = T 15 := shT_off (by decide) (by decide) (by decide)
  have e18 : shT T n 0 18 = nI n := by unfold shT shT2 shT1; rw [upR_row (by decide)]; simp (disch := omega) only [up2_row, up2_col, up2_same]
  have e17 : shT T n 0 17 = nI 0 := by unfold shT shT2 shT1; rw [upR_row (by decide)]; simp (disch := omega) only [up2_row, up2_col, up2_same]; rfl
  have e23 : shT T n 0 23 = 0 := by unfold shT shT2 shT1; rw [upR_row (by decide)]; simp (disch := omega) only [up2_row, up2_col, up2_same]
  have bo1 : BO (shT T n) := by unfold BO; rw [e15]; exact bo
  have e3 : shClear (up2 (up2 S 1 2 0) 1 3 (-1)) t 3 = S 3 := by rw [shClear_off (by omega), up2_row (by decide), up2_row (by decide)]
  have hby : ∀ k, bya (shClear (up2 (up2 S 1 2 0) 1 3 (-1)) t 3) n k = bya (shT T n 15) n k := by
    intro k
    rw [e3, e15]
    unfold bya
    by_cases q : k < n
    · rw [if_pos q, if_pos q, hB k (by omega)]
      obtain ⟨c, hc, ec⟩ := bo k (by omega)
      rw [← hB k (by omega), ec, pk_andN (by omega) 8 (by decide), Nat.mod_eq_of_lt (by omega)]
    · rw [if_neg q, if_neg q]
  have rt := RTk_start (S := shClear (up2 (up2 S 1 2 0) 1 3 (-1)) t) (T := shT T n) (n := n) (by omega) e18 bo1 hby
  have pi := PI_rd0 (S := S) (t := t) (k := n) (by omega) hsh
  have rd := RD_start (S := S) (T := T) (n := n) ht
  have hL : tL (rd0 S t n) = n := by
    have e := rt.2.1.1
    rw [mStep_0 (by omega), e18] at e
    exact ((nI_eq (by omega) (by have := rt.2.1.2.1; omega)).mp e).symm
  refine VM_start (ls := [some (.ref (b + 0)), some (.int (nI n)), none]) rfl ?_
  unfold rdT
  -- %m X12_shore
  refine V_aload_n (pc := 0) (i := 0) dX12_shore_0 rfl rfl ?_
  refine V_iconst (pc := 1) (v := 0) dX12_shore_1 (by decide) ?_
  refine VW_putI (pc := 2) dX12_shore_2 fX12_139 ftX12 (fpI rfl rfl (tyX12_ok 2 (by decide))) (by first | assumption | rfl) rfl (by assumption) ?_
  refine V_iload_n (pc := 5) (i := 1) dX12_shore_5 rfl rfl ?_
  refine V_if_lt (pc := 6) 17 dX12_shore_6 rfl (fun c => absurd c (nI_pos (by omega))) (fun _ => ?_)
  refine V_iload_n (pc := 9) (i := 1) dX12_shore_9 rfl rfl ?_
  refine V_aload_n (pc := 10) (i := 0) dX12_shore_10 rfl rfl ?_
  refine VW_getI (pc := 11) dX12_shore_11 fX12_150 (by first | assumption | rfl) rfl ?_
  rw [up2_col (by decide), hz]
  refine V_icmp_le (pc := 14) 23 dX12_shore_14 rfl (fun _ => ?_) (fun c => absurd (nI_le hn (by omega)) c)
  refine V_aload_n (pc := 23) (i := 0) dX12_shore_23 rfl rfl ?_
  refine V_iconst (pc := 24) (v := 0) dX12_shore_24 (by decide) ?_
  refine VW_putI (pc := 25) dX12_shore_25 fX12_150 ftX12 (fpI rfl rfl (tyX12_ok 16 (by decide))) (by first | assumption | rfl) rfl (by assumption) ?_
  refine V_aload_n (pc := 28) (i := 0) dX12_shore_28 rfl rfl ?_
  refine V_iload_n (pc := 29) (i := 1) dX12_shore_29 rfl rfl ?_
  refine VW_putI (pc := 30) dX12_shore_30 fX12_153 ftX12 (fpI rfl rfl (tyX12_ok 18 (by decide))) (by first | assumption | rfl) rfl (by assumption) ?_
  refine V_aload_n (pc := 33) (i := 0) dX12_shore_33 rfl rfl ?_
  refine V_iconst (pc := 34) (v := 0) dX12_shore_34 (by decide) ?_
  refine VW_putI (pc := 35) dX12_shore_35 fX12_156 ftX12 (fpI rfl rfl (tyX12_ok 17 (by decide))) (by first | assumption | rfl) rfl (by assumption) ?_
  refine V_aload_n (pc := 38) (i := 0) dX12_shore_38 rfl rfl ?_
  refine V_iconst (pc := 39) (v := 0) dX12_shore_39 (by decide) ?_
  refine VW_putI (pc := 40) dX12_shore_40 fX12_192 ftX12 (fpI rfl rfl (tyX12_ok 23 (by decide))) (by first | assumption | rfl) rfl (by assumption) ?_
  refine V_aload_n (pc := 43) (i := 0) dX12_shore_43 rfl rfl ?_
  refine V_iconst (pc := 44) (v := -1) dX12_shore_44 (by decide) ?_
  refine VW_putI (pc := 45) dX12_shore_45 fX12_76 ftX12 (fpI rfl rfl (tyX12_ok 25 (by decide))) (by first | assumption | rfl) rfl (by assumption) ?_
  refine V_aload_n (pc := 48) (i := 0) dX12_shore_48 rfl rfl ?_
  refine V_iconst (pc := 49) (v := 0) dX12_shore_49 (by decide) ?_
  refine VW_putI (pc := 50) dX12_shore_50 fX12_260 ftX12 (fpI rfl rfl (tyX12_ok 26 (by decide))) (by first | assumption | rfl) rfl (by assumption) ?_
  refine V_iconst (pc := 53) (v := 0) dX12_shore_53 (by decide) ?_
  refine V_istore_n (pc := 54) (i := 2) dX12_shore_54 rfl (by decide) rfl ?_
  show V G mX12_shore d 0 0 _ 55 _ _ (wH G b tbM (shT1 T n) h0)
  have one : ∀ (k : Nat) (v : Int32) (Q : xR → xH → Prop) (X : Nat → Nat → Int32), k < 4 → v = (if k = 2 then 4 else 0) → V G mX12_shore d 0 0 Q 55 [some (.ref (b + 0)), some (.int (nI n)), some (.int (nI (k + 1)))] [] (wH G b tbM (up2 X 3 (4 + k) v) h0) → V G mX12_shore d 0 0 Q 55 [some (.ref (b + 0)), some (.int (nI n)), some (.int (nI k))] [] (wH G b tbM X h0) := by
    intro k v Q X hk hv kk
    refine V_iload_n (pc := 55) (i := 2) dX12_shore_55 rfl rfl ?_
    refine V_iconst (pc := 56) (v := 4) dX12_shore_56 (by decide) ?_
    refine V_icmp_ge (pc := 57) 84 dX12_shore_57 rfl (fun c => absurd c (nI_ge (b := 4) hk (by decide))) (fun _ => ?_)
    refine V_aload_n (pc := 60) (i := 0) dX12_shore_60 rfl rfl ?_
    refine VW_getR (pc := 61) dX12_shore_61 fX12_36 (by first | assumption | rfl) rfl ?_
    refine V_iconst (pc := 64) (v := 4) dX12_shore_64 (by decide) ?_
    refine V_iload_n (pc := 65) (i := 2) dX12_shore_65 rfl rfl ?_
    refine V_iadd (pc := 66) dX12_shore_66 ?_
    refine V_iload_n (pc := 67) (i := 2) dX12_shore_67 rfl rfl ?_
    refine V_iconst (pc := 68) (v := 2) dX12_shore_68 (by decide) ?_
    by_cases e : k = 2
    · subst e
      rw [if_pos rfl] at hv
      subst hv
      refine V_icmp_ne (pc := 69) 76 dX12_shore_69 rfl (fun c => absurd rfl c) (fun _ => ?_)
      refine V_iconst (pc := 72) (v := 4) dX12_shore_72 (by decide) ?_
      refine V_goto (pc := 73) 77 dX12_shore_73 rfl ?_
      refine VW_iastN (pc := 77) dX12_shore_77 rfl (by assumption) (j := 4 + 2) (nI_add 4 2) (by decide) (by decide) ?_
      refine V_iinc (pc := 78) dX12_shore_78 (by decide) rfl rfl (iincN (n := 1) (by decide)) ?_
      refine V_goto (pc := 81) 55 dX12_shore_81 rfl ?_
      exact kk
    · rw [if_neg e] at hv
      subst hv
      refine V_icmp_ne (pc := 69) 76 dX12_shore_69 rfl (fun _ => ?_) (fun c => absurd ((nI_eq (b := 2) (by omega) (by decide)).mp c) e)
      refine V_iconst (pc := 76) (v := 0) dX12_shore_76 (by decide) ?_
      refine VW_iastN (pc := 77) dX12_shore_77 rfl (by assumption) (j := 4 + k) (nI_add 4 k) (by omega) (by decide) ?_
      refine V_iinc (pc := 78) dX12_shore_78 (by decide) rfl rfl (iincN (n := 1) (by decide)) ?_
      refine V_goto (pc := 81) 55 dX12_shore_81 rfl ?_
      exact kk
  refine one 0 0 _ _ (by decide) rfl ?_
  refine one 1 0 _ _ (by decide) rfl ?_
  refine one 2 4 _ _ (by decide) rfl ?_
  refine one 3 0 _ _ (by decide) rfl ?_
  show V G mX12_shore d 0 0 _ 55 [some (.ref (b + 0)), some (.int (nI n)), some (.int 4)] _ (wH G b tbM (shT2 T n) h0)
  refine V_iload_n (pc := 55) (i := 2) dX12_shore_55 rfl rfl ?_
  refine V_iconst (pc := 56) (v := 4) dX12_shore_56 (by decide) ?_
  refine V_icmp_ge (pc := 57) 84 dX12_shore_57 rfl (fun _ => ?_) (fun c => absurd (by decide) c)
  refine V_iconst (pc := 84) (v := 0) dX12_shore_84 (by decide) ?_
  refine V_istore_n (pc := 85) (i := 2) dX12_shore_85 rfl (by decide) rfl ?_
  have wl : ∀ (m i : Nat) (f : Nat → Int32) (Q : xR → xH → Prop), m + i = 10 → V G mX12_shore d 0 0 Q 108 [some (.ref (b + 0)), some (.int (nI n)), none] [] (wH G b tbM (upR (shT2 T n) 4 (fillR f 0 (10 + i) 20)) h0) → V G mX12_shore d 0 0 Q 86 [some (.ref (b + 0)), some (.int (nI n)), some (.int (nI i))] [] (wH G b tbM (upR (shT2 T n) 4 f) h0) := by
    intro m
    induction m with
    | zero =>
      intro i f Q hm kk
      rw [show fillR f 0 (10 + i) 20 = f from funext fun j => by unfold fillR; rw [if_neg (by omega)]] at kk
      refine V_iload_n (pc := 86) (i := 2) dX12_shore_86 rfl rfl ?_
      refine V_bipush (pc := 87) (v := 10) dX12_shore_87 (by decide) ?_
      refine V_icmp_ge (pc := 89) 108 dX12_shore_89 rfl (fun c89 => ?_) (fun c89 => ?_)
      · exact V_forget 2 kk
      · exact absurd (by rw [show i = 10 by omega]; decide) c89
    | succ m ih =>
      intro i f Q hm kk
      refine V_iload_n (pc := 86) (i := 2) dX12_shore_86 rfl rfl ?_
      refine V_bipush (pc := 87) (v := 10) dX12_shore_87 (by decide) ?_
      refine V_icmp_ge (pc := 89) 108 dX12_shore_89 rfl (fun c89 => ?_) (fun c89 => ?_)
      · exact absurd c89 (nI_ge (b := 10) (by omega) (by decide))
      · refine V_aload_n (pc := 92) (i := 0) dX12_shore_92 rfl rfl ?_
        refine VW_getR (pc := 93) dX12_shore_93 fX12_40 (by first | assumption | rfl) rfl ?_
        refine V_bipush (pc := 96) (v := 10) dX12_shore_96 (by decide) ?_
        refine V_iload_n (pc := 98) (i := 2) dX12_shore_98 rfl rfl ?_
        refine V_iadd (pc := 99) dX12_shore_99 ?_
        refine V_iconst (pc := 100) (v := 0) dX12_shore_100 (by decide) ?_
        refine VW_iastN (pc := 101) dX12_shore_101 rfl (by assumption) (j := 10 + i) (nI_add 10 i) (by omega) (by decide) ?_
        rw [up2_upR]
        refine V_iinc (pc := 102) dX12_shore_102 (by decide) rfl rfl (iincN (n := 1) (by decide)) ?_
        refine V_goto (pc := 105) 86 dX12_shore_105 rfl ?_
        refine ih (i + 1) _ Q (by omega) ?_
        rw [show fillR (upd f (10 + i) 0) 0 (10 + (i + 1)) 20 = fillR f 0 (10 + i) 20 from funext fun j => by
          unfold fillR
          by_cases e : j = 10 + i
          · subst e; rw [if_neg (by omega), if_pos (by omega), updS]
          · by_cases e2 : 10 + (i + 1) ≤ j ∧ j < 20
            · rw [if_pos e2, if_pos (by omega)]
            · rw [if_neg e2, if_neg (by omega), updN e]]
        exact kk
  rw [show wH G b tbM (shT2 T n) h0 = wH G b tbM (upR (shT2 T n) 4 (shT2 T n 4)) h0 by rw [upR_self]]
  refine wl 10 0 _ _ rfl ?_
  show V G mX12_shore d 0 0 _ 108 _ _ (wH G b tbM (shT T n) h0)
  refine V_aload_n (pc := 108) (i := 0) dX12_shore_108 rfl rfl ?_
  refine V_V0v (pc := 109) dX12_shore_109 cX12_217 (by first | assumption | rfl) (X12_stepOn (d := 1) bo1 e18 (by omega) e17 (by omega) hb (by omega)) (Nat.le_of_ble_eq_true rfl) (by omega) (Nat.le_of_ble_eq_true rfl) ?_
  refine V_iconst (pc := 112) (v := 0) dX12_shore_112 (by decide) ?_
  refine V_istore_n (pc := 113) (i := 2) dX12_shore_113 rfl (by decide) rfl ?_
  exact X12_shore_114 (Zc := S) (by omega) _ hb hd (n + 1) 0 (rd0 S t n) _ (by omega) hL rt (by rw [mStep_0 (by omega)]; exact e23) rd pi EX_step.FR
end P16
