/-! ===== the model: a SUNDAY ===== -/
section M6
variable {G : xG} {d : Nat} {b : Nat} {S U : Nat → Nat → Int32} {h0 h : xH}
theorem nI_bv (y : Int32) : nI y.toBitVec.toNat = y := Int32.toBitVec_inj.mp (by show BitVec.ofNat 32 y.toBitVec.toNat = y.toBitVec; simp)
theorem and_in {a : Nat} (y : Int32) : ∃ c, c ≤ a ∧ nI a &&& y = nI c := ⟨a &&& y.toBitVec.toNat, Nat.and_le_left, by rw [← nx_and, nI_bv]⟩
theorem allF_in {F : Int32 → Int32} {gv : Nat → Int32} {n : Nat} (hF : ∀ t, F t = -1 ∨ ∃ j, j < n ∧ F t = nI j) (hn : n < 2 ^ 31) (hg : GvOk gv n) : ∀ (m a : Nat), a < 1024 → ∃ c, c < 1024 ∧ allF F gv m (nI a) = nI c := by
  intro m
  induction m with
  | zero => intro a ha; exact ⟨a, ha, rfl⟩
  | succ m ih =>
    intro a ha
    rw [allF]
    by_cases e : F (nI a) = -1
    · rw [if_pos e]; exact ⟨a, ha, rfl⟩
    · rw [if_neg e]
      obtain ⟨j, hj, ej⟩ := (hF (nI a)).resolve_left e
      obtain ⟨g, hg1, eg⟩ := hg j hj
      rw [ej, nI_clamp (by omega), eg, or_shl hg1]
      exact ih _ (or_lt ha hg1)
/-- what PEOPLE have, and miss, is THINGS -/
def PO (S : Nat → Nat → Int32) (pp : Nat) : Prop := ∀ q, q < pp → (∃ a, a < 1024 ∧ S 16 q = nI a) ∧ ∃ t, t < 10 ∧ S 17 q = nI t
theorem PO.same {pp : Nat} (h : PO S pp) (hU : mSame S U) : PO U pp := by
  intro q hq
  rw [hU.1 16 (by decide) (by decide), hU.1 17 (by decide) (by decide)]
  exact h q hq
theorem mF_or {n : Nat} {dn : Int32} (t : Int32) : mF S n dn t = -1 ∨ ∃ j, j < n ∧ mF S n dn t = nI j := (mF_cases (S := S) (n := n) (dn := dn) (t := t)).elim Or.inl (fun ⟨j, a, b, _⟩ => Or.inr ⟨j, a, b⟩)
theorem mThere_in {n pp q : Nat} (h12 : n ≤ 12) (hg : GvOk (S 12) n) (po : PO S pp) (hq : q < pp) : ∃ c, c < 1024 ∧ mThere S n q = nI c := by
  obtain ⟨⟨a, ha, ea⟩, t, ht, et⟩ := po q hq
  unfold mThere
  rw [ea, et, or_shl ht]
  exact allF_in mF_or (by omega) hg 10 _ (or_lt ha ht)
/-- who goes: m more may, g are gone, of w -/
def goM (ml : Int32 → Int32) (w : Int32) : Nat → Int32 → Int32
  | 0, g => g
  | m + 1, g => if g = w then g else goM ml w m (g ||| 1 <<< (ml (w &&& (g ^^^ -1)) &&& 31))
def mPer (S : Nat → Nat → Int32) (n : Nat) (g : Int32) (p : Nat) (U : Nat → Nat → Int32) : Nat → Nat → Int32 :=
  if hasB g (nI p) then up2 (up2 U 18 p (mxI 0 (U 18 p - mxI 0 (sumB (S 4) (mThere S n p) 10 0 0 - sumB (S 4) (S 16 p) 10 0 0)))) 19 p (if mThere S n p &&& (S 16 p ^^^ -1) = 0 then U 19 p else mnI 99 (U 19 p + 1))
  else up2 U 18 p (mnI 99 (U 18 p + bcI (mThere S n p &&& (S 16 p ^^^ -1)) + 1))
def mPers (S : Nat → Nat → Int32) (n : Nat) (g : Int32) : Nat → Nat → (Nat → Nat → Int32) → Nat → Nat → Int32
  | 0, _, U => U
  | m + 1, p, U => mPers S n g m (p + 1) (mPer S n g p U)
theorem mPer_off {n p k : Nat} {g : Int32} (h1 : k ≠ 18) (h2 : k ≠ 19) : mPer S n g p U k = U k := by
  unfold mPer
  split <;> simp (disch := omega) only [up2_row]
theorem mPers_off {n k : Nat} {g : Int32} (h1 : k ≠ 18) (h2 : k ≠ 19) : ∀ (m p : Nat) (U : Nat → Nat → Int32), mPers S n g m p U k = U k := by
  intro m
  induction m with
  | zero => intro p U; rfl
  | succ m ih => intro p U; rw [mPers, ih, mPer_off h1 h2]
theorem mPer_same {n p : Nat} {g : Int32} (h : mSame S U) : mSame S (mPer S n g p U) := ⟨fun k h1 h2 => by rw [mPer_off (by omega) (by omega)]; exact h.1 k h1 h2, by rw [mPer_off (by decide) (by decide)]; exact h.2⟩
def mSun1 (W : Int32 × (Nat → Nat → Int32)) : Nat → Nat → Int32 := up2 W.2 0 40 W.1
def mGo (U : Nat → Nat → Int32) (pp bb : Nat) : Int32 := goM (fun x => mlF (U 18) x pp 0 (-1)) (U 0 40) bb 0
def mSun2 (U : Nat → Nat → Int32) (n pp : Nat) (g : Int32) : Nat → Nat → Int32 := up2 (up2 (mPers U n g pp 0 U) 0 33 g) 0 32 (U 0 32 + 1)
def mSun (n r pp bb : Nat) (S : Nat → Nat → Int32) : Nat → Nat → Int32 := mSun2 (mSun1 (mWho n r pp 0 0 S)) n pp (mGo (mSun1 (mWho n r pp 0 0 S)) pp bb)
theorem mWho_same {n r : Nat} (m q : Nat) (x : Int32) : mSame S (mWho n r m q x S).2 := ⟨fun k h1 h2 => mWho_off (by omega) (by omega) m q x S, by rw [mWho_off (by decide) (by decide)]⟩
theorem MI.same {n pp r bb : Nat} (ci : MI S n pp r bb) (h : ∀ k, 3 ≤ k → k ≤ 13 → U k = S k) (h0 : U 0 35 = S 0 35) : MI U n pp r bb := by
  obtain ⟨hn, h12, hg, hp, h8, hr, h7, hw, hbb, hb8⟩ := id ci
  exact ⟨by rw [h 3 (by decide) (by decide)]; exact hn, h12, by rw [h 12 (by decide) (by decide)]; exact hg, by rw [h 3 (by decide) (by decide)]; exact hp, h8, by rw [h 3 (by decide) (by decide)]; exact hr, h7, by rw [h 13 (by decide) (by decide)]; exact hw, by rw [h0]; exact hbb, hb8⟩
theorem X12_aSunday {n pp r bb : Nat} (ci : MI S n pp r bb) (po : PO S pp) (hb : gB G ≤ b) (hd : 7 ≤ d) : VM G mX12_aSunday d 0 0 [.ref (b + 0)] (xE none (wH G b tbM (mSun n r pp bb S) h0)) (wH G b tbM S h0) := by
  refine VM_start (ls := [some (.ref (b + 0)), none, none, none, none, none]) rfl ?_
  -- %m X12_aSunday
  refine V_aload_n (pc := 0) (i := 0) dX12_aSunday_0 rfl rfl ?_
  refine V_aload_n (pc := 1) (i := 0) dX12_aSunday_1 rfl rfl ?_
  refine V_V0i (pc := 2) dX12_aSunday_2 cX12_345 (by first | assumption | rfl) (X12_wanting (d := 6) ci hb (by omega)) (Nat.le_of_ble_eq_true rfl) (by omega) (Nat.le_of_ble_eq_true rfl) ?_
  refine VW_putI (pc := 5) dX12_aSunday_5 fX12_348 ftX12 (fpI rfl rfl (tyX12_ok 40 (by decide))) (by first | assumption | rfl) rfl (by assumption) ?_
  have ci1 : MI (mSun1 (mWho n r pp 0 0 S)) n pp r bb := ci.same (fun k h1 h2 => by rw [mSun1, up2_row (by omega), mWho_off (by omega) (by omega)]) (by rw [mSun1, up2_col (by decide), mWho_off (by decide) (by decide)])
  have po1 : PO (mSun1 (mWho n r pp 0 0 S)) pp := po.same ((mWho_same pp 0 0).up0 (by decide))
  show V G mX12_aSunday d 0 0 (xE none (wH G b tbM (mSun2 (mSun1 (mWho n r pp 0 0 S)) n pp (mGo (mSun1 (mWho n r pp 0 0 S)) pp bb)) h0)) 8 [some (.ref (b + 0)), none, none, none, none, none] [] (wH G b tbM (mSun1 (mWho n r pp 0 0 S)) h0)
  generalize mSun1 (mWho n r pp 0 0 S) = T at ci1 po1 ⊢
  obtain ⟨hn, h12, hg, hp, h8, hr, h7, hw, hbb, hb8⟩ := id ci1
  refine V_iconst (pc := 8) (v := 0) dX12_aSunday_8 (by decide) ?_
  refine V_istore_n (pc := 9) (i := 1) dX12_aSunday_9 rfl (by decide) rfl ?_
  refine V_iconst (pc := 10) (v := 0) dX12_aSunday_10 (by decide) ?_
  refine V_istore_n (pc := 11) (i := 2) dX12_aSunday_11 rfl (by decide) rfl ?_
  have go : ∀ (m k : Nat) (g : Int32) (Q : xR → xH → Prop), m + k = bb → (V G mX12_aSunday d 0 0 Q 51 [some (.ref (b + 0)), some (.int (goM (fun x => mlF (T 18) x pp 0 (-1)) (T 0 40) m g)), none, none, none, none] [] (wH G b tbM T h0)) → V G mX12_aSunday d 0 0 Q 12 [some (.ref (b + 0)), some (.int g), some (.int (nI k)), none, none, none] [] (wH G b tbM T h0) := by
    intro m
    induction m with
    | zero =>
      intro k g Q hm kk
      refine V_iload_n (pc := 12) (i := 2) dX12_aSunday_12 rfl rfl ?_
      refine V_aload_n (pc := 13) (i := 0) dX12_aSunday_13 rfl rfl ?_
      refine VW_getI (pc := 14) dX12_aSunday_14 fX12_136 (by first | assumption | rfl) rfl ?_
      refine V_icmp_ge (pc := 17) 51 dX12_aSunday_17 rfl (fun c17 => ?_) (fun c17 => ?_)
      · exact V_forget 2 kk
      · exact absurd (by rw [hbb, show k = bb by omega]; exact nI_le (by omega) (by omega)) c17
    | succ m ih =>
      intro k g Q hm kk
      rw [goM] at kk
      refine V_iload_n (pc := 12) (i := 2) dX12_aSunday_12 rfl rfl ?_
      refine V_aload_n (pc := 13) (i := 0) dX12_aSunday_13 rfl rfl ?_
      refine VW_getI (pc := 14) dX12_aSunday_14 fX12_136 (by first | assumption | rfl) rfl ?_
      refine V_icmp_ge (pc := 17) 51 dX12_aSunday_17 rfl (fun c17 => ?_) (fun c17 => ?_)
      · exact absurd c17 (by rw [hbb]; exact nI_ge (by omega) (by omega))
      · refine V_iload_n (pc := 20) (i := 1) dX12_aSunday_20 rfl rfl ?_
        refine V_aload_n (pc := 21) (i := 0) dX12_aSunday_21 rfl rfl ?_
        refine VW_getI (pc := 22) dX12_aSunday_22 fX12_348 (by first | assumption | rfl) rfl ?_
        refine V_icmp_eq (pc := 25) 51 dX12_aSunday_25 rfl (fun c25 => ?_) (fun c25 => ?_)
        · rw [if_pos c25] at kk
          exact V_forget 2 kk
        · rw [if_neg c25] at kk
          refine V_iload_n (pc := 28) (i := 1) dX12_aSunday_28 rfl rfl ?_
          refine V_iconst (pc := 29) (v := 1) dX12_aSunday_29 (by decide) ?_
          refine V_aload_n (pc := 30) (i := 0) dX12_aSunday_30 rfl rfl ?_
          refine V_aload_n (pc := 31) (i := 0) dX12_aSunday_31 rfl rfl ?_
          refine VW_getI (pc := 32) dX12_aSunday_32 fX12_348 (by first | assumption | rfl) rfl ?_
          refine V_iload_n (pc := 35) (i := 1) dX12_aSunday_35 rfl rfl ?_
          refine V_iconst (pc := 36) (v := -1) dX12_aSunday_36 (by decide) ?_
          refine V_ixor (pc := 37) dX12_aSunday_37 ?_
          refine V_iand (pc := 38) dX12_aSunday_38 ?_
          refine V_V1i (pc := 39) dX12_aSunday_39 cX12_351 (by first | assumption | rfl) (X12_longingMost (d := 1) hp h8 _ (by omega)) (Nat.le_of_ble_eq_true rfl) (by omega) (Nat.le_of_ble_eq_true rfl) ?_
          refine V_ishl (pc := 42) dX12_aSunday_42 ?_
          refine V_ior (pc := 43) dX12_aSunday_43 ?_
          refine V_istore_n (pc := 44) (i := 1) dX12_aSunday_44 rfl (by decide) rfl ?_
          refine V_iinc (pc := 45) dX12_aSunday_45 (by decide) rfl rfl (iincN (n := 1) (by decide)) ?_
          refine V_goto (pc := 48) 12 dX12_aSunday_48 rfl ?_
          exact ih (k + 1) _ Q (by omega) kk
  refine go bb 0 0 _ rfl ?_
  show V G mX12_aSunday d 0 0 _ 51 [some (.ref (b + 0)), some (.int (mGo T pp bb)), none, none, none, none] [] _
  generalize mGo T pp bb = g
  refine V_iconst (pc := 51) (v := 0) dX12_aSunday_51 (by decide) ?_
  refine V_istore_n (pc := 52) (i := 2) dX12_aSunday_52 rfl (by decide) rfl ?_
  have loop : ∀ (m i : Nat) (U : Nat → Nat → Int32), m + i = pp → mSame T U → V G mX12_aSunday d 0 0 (xE none (wH G b tbM (up2 (up2 (mPers T n g m i U) 0 33 g) 0 32 (U 0 32 + 1)) h0)) 53 [some (.ref (b + 0)), some (.int g), some (.int (nI i)), none, none, none] [] (wH G b tbM U h0) := by
    intro m
    induction m with
    | zero =>
      intro i U hm hU
      refine V_iload_n (pc := 53) (i := 2) dX12_aSunday_53 rfl rfl ?_
      refine V_aload_n (pc := 54) (i := 0) dX12_aSunday_54 rfl rfl ?_
      refine VW_getR (pc := 55) dX12_aSunday_55 fX12_36 (by first | assumption | rfl) rfl ?_
      refine V_iconst (pc := 58) (v := 0) dX12_aSunday_58 (by decide) ?_
      refine VW_ialdN (pc := 59) dX12_aSunday_59 (by first | assumption | rfl) (j := 0) rfl (by decide) (by first | decide | omega) ?_
      rw [hU.1 3 (by decide) (by decide)]
      refine V_icmp_ge (pc := 60) 197 dX12_aSunday_60 rfl (fun c60 => ?_) (fun c60 => ?_)
      · refine V_aload_n (pc := 197) (i := 0) dX12_aSunday_197 rfl rfl ?_
        refine V_iload_n (pc := 198) (i := 1) dX12_aSunday_198 rfl rfl ?_
        refine VW_putI (pc := 199) dX12_aSunday_199 fX12_302 ftX12 (fpI rfl rfl (tyX12_ok 33 (by decide))) (by first | assumption | rfl) rfl (by assumption) ?_
        refine V_aload_n (pc := 202) (i := 0) dX12_aSunday_202 rfl rfl ?_
        refine V_dup (pc := 203) dX12_aSunday_203 rfl ?_
        refine VW_getI (pc := 204) dX12_aSunday_204 fX12_300 (by first | assumption | rfl) rfl ?_
        rw [up2_col (by decide)]
        refine V_iconst (pc := 207) (v := 1) dX12_aSunday_207 (by decide) ?_
        refine V_iadd (pc := 208) dX12_aSunday_208 ?_
        refine VW_putI (pc := 209) dX12_aSunday_209 fX12_300 ftX12 (fpI rfl rfl (tyX12_ok 32 (by decide))) (by first | assumption | rfl) rfl (by assumption) ?_
        exact VE_vret (pc := 212) dX12_aSunday_212 rfl rfl
      · exact absurd (by rw [hp, show i = pp by omega]; exact nI_le (by omega) (by omega)) c60
    | succ m ih =>
      intro i U hm hU
      have e3 : U 3 0 = nI pp := by rw [hU.1 3 (by decide) (by decide)]; exact hp
      have e16 : U 16 = T 16 := hU.1 16 (by decide) (by decide)
      obtain ⟨a, ha, ea⟩ := mThere_in h12 hg po1 (show i < pp by omega)
      rw [mPers, show U 0 32 + 1 = mPer T n g i U 0 32 + 1 by rw [mPer_off (by decide) (by decide)]]
      have kN : mSame T (mPer T n g i U) := mPer_same hU
      have ihh := ih (i + 1) (mPer T n g i U)
      unfold mPer at ihh ⊢
      unfold mPer at kN
      refine V_iload_n (pc := 53) (i := 2) dX12_aSunday_53 rfl rfl ?_
      refine V_aload_n (pc := 54) (i := 0) dX12_aSunday_54 rfl rfl ?_
      refine VW_getR (pc := 55) dX12_aSunday_55 fX12_36 (by first | assumption | rfl) rfl ?_
      refine V_iconst (pc := 58) (v := 0) dX12_aSunday_58 (by decide) ?_
      refine VW_ialdN (pc := 59) dX12_aSunday_59 (by first | assumption | rfl) (j := 0) rfl (by decide) (by first | decide | omega) ?_
      rw [e3]
      refine V_icmp_ge (pc := 60) 197 dX12_aSunday_60 rfl (fun c60 => ?_) (fun c60 => ?_)
      · exact absurd c60 (nI_ge (by omega) (by omega))
      · refine V_aload_n (pc := 63) (i := 0) dX12_aSunday_63 rfl rfl ?_
        refine V_iload_n (pc := 64) (i := 2) dX12_aSunday_64 rfl rfl ?_
        refine V_V1i (pc := 65) dX12_aSunday_65 cX12_333 (by first | assumption | rfl) (X12_thereOfU (d := 4) hU hn h12 hg (by omega) (by omega)) (Nat.le_of_ble_eq_true rfl) (by omega) (Nat.le_of_ble_eq_true rfl) ?_
        refine V_istore_n (pc := 68) (i := 3) dX12_aSunday_68 rfl (by decide) rfl ?_
        refine V_iload_n (pc := 69) (i := 3) dX12_aSunday_69 rfl rfl ?_
        refine V_aload_n (pc := 70) (i := 0) dX12_aSunday_70 rfl rfl ?_
        refine VW_getR (pc := 71) dX12_aSunday_71 fX12_80 (by first | assumption | rfl) rfl ?_
        refine V_iload_n (pc := 74) (i := 2) dX12_aSunday_74 rfl rfl ?_
        refine VW_ialdN (pc := 75) dX12_aSunday_75 (by first | assumption | rfl) rfl (by omega) (by first | decide | omega) ?_
        rw [e16]
        refine V_iconst (pc := 76) (v := -1) dX12_aSunday_76 (by decide) ?_
        refine V_ixor (pc := 77) dX12_aSunday_77 ?_
        refine V_iand (pc := 78) dX12_aSunday_78 ?_
        refine V_istore (pc := 79) dX12_aSunday_79 (by decide) rfl ?_
        refine V_iload_n (pc := 81) (i := 1) dX12_aSunday_81 rfl rfl ?_
        refine V_iload_n (pc := 82) (i := 2) dX12_aSunday_82 rfl rfl ?_
        refine V_S2i (pc := 83) dX12_aSunday_83 cX12_263 (X12_isOf (d := 0) _ _) (Nat.le_of_ble_eq_true rfl) (by omega) (Nat.le_of_ble_eq_true rfl) ?_
        refine V_if_eq (pc := 86) 166 dX12_aSunday_86 rfl (fun c86 => ?_) (fun c86 => ?_)
        · rw [if_neg (by rw [b2i_0.mp c86]; decide)] at ihh kN ⊢
          obtain ⟨c, hc, ec⟩ := and_in (a := a) (T 16 i ^^^ -1)
          refine V_aload_n (pc := 166) (i := 0) dX12_aSunday_166 rfl rfl ?_
          refine VW_getR (pc := 167) dX12_aSunday_167 fX12_86 (by first | assumption | rfl) rfl ?_
          refine V_iload_n (pc := 170) (i := 2) dX12_aSunday_170 rfl rfl ?_
          refine V_bipush (pc := 171) (v := 99) dX12_aSunday_171 (by decide) ?_
          refine V_aload_n (pc := 173) (i := 0) dX12_aSunday_173 rfl rfl ?_
          refine VW_getR (pc := 174) dX12_aSunday_174 fX12_86 (by first | assumption | rfl) rfl ?_
          refine V_iload_n (pc := 177) (i := 2) dX12_aSunday_177 rfl rfl ?_
          refine VW_ialdN (pc := 178) dX12_aSunday_178 (by first | assumption | rfl) rfl (by omega) (by first | decide | omega) ?_
          refine V_iload (pc := 179) dX12_aSunday_179 rfl ?_
          refine V_S1i (pc := 181) dX12_aSunday_181 cX12_357 (X12_bitsE (d := 0) (k := c) (by rw [ea]; exact ec) (by omega)) (Nat.le_of_ble_eq_true rfl) (by omega) (Nat.le_of_ble_eq_true rfl) ?_
          refine V_iadd (pc := 184) dX12_aSunday_184 ?_
          refine V_iconst (pc := 185) (v := 1) dX12_aSunday_185 (by decide) ?_
          refine V_iadd (pc := 186) dX12_aSunday_186 ?_
          refine V_min (pc := 187) dX12_aSunday_187 cX12_180 w_minS w_mathI w_minC (by omega) (Nat.le_of_ble_eq_true rfl) ?_
          refine VW_iastN (pc := 190) dX12_aSunday_190 (by first | assumption | rfl) (by assumption) rfl (by omega) (by first | decide | omega) ?_
          refine V_iinc (pc := 191) dX12_aSunday_191 (by decide) rfl rfl (iincN (n := 1) (by decide)) ?_
          refine V_goto (pc := 194) 53 dX12_aSunday_194 rfl ?_
          exact V_forget 3 (V_forget 4 (ihh (by omega) kN))
        · rw [if_pos (b2i_n0.mp c86)] at ihh kN ⊢
          refine V_aload_n (pc := 89) (i := 0) dX12_aSunday_89 rfl rfl ?_
          refine V_iload_n (pc := 90) (i := 3) dX12_aSunday_90 rfl rfl ?_
          refine V_V1i (pc := 91) dX12_aSunday_91 cX12_330 (by first | assumption | rfl) (X12_worthOfU (d := 1) hU _ (by omega)) (Nat.le_of_ble_eq_true rfl) (by omega) (Nat.le_of_ble_eq_true rfl) ?_
          refine V_aload_n (pc := 94) (i := 0) dX12_aSunday_94 rfl rfl ?_
          refine V_aload_n (pc := 95) (i := 0) dX12_aSunday_95 rfl rfl ?_
          refine VW_getR (pc := 96) dX12_aSunday_96 fX12_80 (by first | assumption | rfl) rfl ?_
          refine V_iload_n (pc := 99) (i := 2) dX12_aSunday_99 rfl rfl ?_
          refine VW_ialdN (pc := 100) dX12_aSunday_100 (by first | assumption | rfl) rfl (by omega) (by first | decide | omega) ?_
          rw [e16]
          refine V_V1i (pc := 101) dX12_aSunday_101 cX12_330 (by first | assumption | rfl) (X12_worthOfU (d := 1) hU _ (by omega)) (Nat.le_of_ble_eq_true rfl) (by omega) (Nat.le_of_ble_eq_true rfl) ?_
          refine V_isub (pc := 104) dX12_aSunday_104 ?_
          refine V_istore (pc := 105) dX12_aSunday_105 (by decide) rfl ?_
          refine V_aload_n (pc := 107) (i := 0) dX12_aSunday_107 rfl rfl ?_
          refine VW_getR (pc := 108) dX12_aSunday_108 fX12_86 (by first | assumption | rfl) rfl ?_
          refine V_iload_n (pc := 111) (i := 2) dX12_aSunday_111 rfl rfl ?_
          refine V_iconst (pc := 112) (v := 0) dX12_aSunday_112 (by decide) ?_
          refine V_aload_n (pc := 113) (i := 0) dX12_aSunday_113 rfl rfl ?_
          refine VW_getR (pc := 114) dX12_aSunday_114 fX12_86 (by first | assumption | rfl) rfl ?_
          refine V_iload_n (pc := 117) (i := 2) dX12_aSunday_117 rfl rfl ?_
          refine VW_ialdN (pc := 118) dX12_aSunday_118 (by first | assumption | rfl) rfl (by omega) (by first | decide | omega) ?_
          refine V_iconst (pc := 119) (v := 0) dX12_aSunday_119 (by decide) ?_
          refine V_iload (pc := 120) dX12_aSunday_120 rfl ?_
          refine V_max (pc := 122) dX12_aSunday_122 cX12_354 w_maxS w_mathI w_maxC (by omega) (Nat.le_of_ble_eq_true rfl) ?_
          refine V_isub (pc := 125) dX12_aSunday_125 ?_
          refine V_max (pc := 126) dX12_aSunday_126 cX12_354 w_maxS w_mathI w_maxC (by omega) (Nat.le_of_ble_eq_true rfl) ?_
          refine VW_iastN (pc := 129) dX12_aSunday_129 (by first | assumption | rfl) (by assumption) rfl (by omega) (by first | decide | omega) ?_
          refine V_aload_n (pc := 130) (i := 0) dX12_aSunday_130 rfl rfl ?_
          refine VW_getR (pc := 131) dX12_aSunday_131 fX12_88 (by first | assumption | rfl) rfl ?_
          refine V_iload_n (pc := 134) (i := 2) dX12_aSunday_134 rfl rfl ?_
          refine V_iload (pc := 135) dX12_aSunday_135 rfl ?_
          refine V_if_ne (pc := 137) 149 dX12_aSunday_137 rfl (fun c137 => ?_) (fun c137 => ?_)
          · rw [if_neg c137] at ihh kN ⊢
            refine V_bipush (pc := 149) (v := 99) dX12_aSunday_149 (by decide) ?_
            refine V_aload_n (pc := 151) (i := 0) dX12_aSunday_151 rfl rfl ?_
            refine VW_getR (pc := 152) dX12_aSunday_152 fX12_88 (by first | assumption | rfl) rfl ?_
            refine V_iload_n (pc := 155) (i := 2) dX12_aSunday_155 rfl rfl ?_
            refine VW_ialdN (pc := 156) dX12_aSunday_156 (by first | assumption | rfl) rfl (by omega) (by first | decide | omega) ?_
            rw [up2_row (by decide)]
            refine V_iconst (pc := 157) (v := 1) dX12_aSunday_157 (by decide) ?_
            refine V_iadd (pc := 158) dX12_aSunday_158 ?_
            refine V_min (pc := 159) dX12_aSunday_159 cX12_180 w_minS w_mathI w_minC (by omega) (Nat.le_of_ble_eq_true rfl) ?_
            refine VW_iastN (pc := 162) dX12_aSunday_162 (by first | assumption | rfl) (by assumption) rfl (by omega) (by first | decide | omega) ?_
            refine V_goto (pc := 163) 191 dX12_aSunday_163 rfl ?_
            refine V_iinc (pc := 191) dX12_aSunday_191 (by decide) rfl rfl (iincN (n := 1) (by decide)) ?_
            refine V_goto (pc := 194) 53 dX12_aSunday_194 rfl ?_
            exact V_forget 3 (V_forget 4 (V_forget 5 (ihh (by omega) kN)))
          · rw [if_pos c137] at ihh kN ⊢
            refine V_aload_n (pc := 140) (i := 0) dX12_aSunday_140 rfl rfl ?_
            refine VW_getR (pc := 141) dX12_aSunday_141 fX12_88 (by first | assumption | rfl) rfl ?_
            refine V_iload_n (pc := 144) (i := 2) dX12_aSunday_144 rfl rfl ?_
            refine VW_ialdN (pc := 145) dX12_aSunday_145 (by first | assumption | rfl) rfl (by omega) (by first | decide | omega) ?_
            rw [up2_row (by decide)]
            refine V_goto (pc := 146) 162 dX12_aSunday_146 rfl ?_
            refine VW_iastN (pc := 162) dX12_aSunday_162 (by first | assumption | rfl) (by assumption) rfl (by omega) (by first | decide | omega) ?_
            refine V_goto (pc := 163) 191 dX12_aSunday_163 rfl ?_
            refine V_iinc (pc := 191) dX12_aSunday_191 (by decide) rfl rfl (iincN (n := 1) (by decide)) ?_
            refine V_goto (pc := 194) 53 dX12_aSunday_194 rfl ?_
            exact V_forget 3 (V_forget 4 (V_forget 5 (ihh (by omega) kN)))
  exact loop pp 0 T rfl mSame.refl
theorem mSun_off {n r pp bb k : Nat} (h : k ≠ 18) (h2 : k ≠ 19) (h3 : k ≠ 21) (h4 : k ≠ 22) (h5 : k ≠ 0) : mSun n r pp bb S k = S k := by
  unfold mSun mSun2 mSun1
  rw [up2_row h5, up2_row h5, mPers_off h h2, up2_row h5, mWho_off h3 h4]
theorem mSun_0 {n r pp bb j : Nat} (h : j ≠ 32) (h2 : j ≠ 33) (h3 : j ≠ 40) : mSun n r pp bb S 0 j = S 0 j := by
  unfold mSun mSun2 mSun1
  rw [up2_col h, up2_col h2, mPers_off (by decide) (by decide), up2_col h3, mWho_off (by decide) (by decide)]
theorem mSun_MI {n r pp bb : Nat} (ci : MI S n pp r bb) : MI (mSun n r pp bb S) n pp r bb := ci.same (fun k h1 h2 => mSun_off (by omega) (by omega) (by omega) (by omega) (by omega)) (mSun_0 (by decide) (by decide) (by decide))
theorem mSun_same {n r pp bb : Nat} : mSame S (mSun n r pp bb S) := ⟨fun k h1 h2 => mSun_off (by omega) (by omega) (by omega) (by omega) (by omega), mSun_0 (by decide) (by decide) (by decide)⟩
def mSunN (n r pp bb : Nat) : Nat → (Nat → Nat → Int32) → Nat → Nat → Int32
  | 0, S => S
  | m + 1, S => mSunN n r pp bb m (mSun n r pp bb S)
theorem X12_goOn {n pp r bb k : Nat} (ci : MI S n pp r bb) (po : PO S pp) (hk : k < 2 ^ 31) (hb : gB G ≤ b) (hd : 8 ≤ d) : VM G mX12_goOn d 0 0 [.ref (b + 0), .int (nI k)] (xE none (wH G b tbM (mSunN n r pp bb k S) h0)) (wH G b tbM S h0) := by
  refine VM_start (ls := [some (.ref (b + 0)), some (.int (nI k)), none]) rfl ?_
  -- %m X12_goOn
  refine V_iconst (pc := 0) (v := 0) dX12_goOn_0 (by decide) ?_
  refine V_istore_n (pc := 1) (i := 2) dX12_goOn_1 rfl (by decide) rfl ?_
  have loop : ∀ (m i : Nat) (U : Nat → Nat → Int32), m + i = k → MI U n pp r bb → PO U pp → V G mX12_goOn d 0 0 (xE none (wH G b tbM (mSunN n r pp bb m U) h0)) 2 [some (.ref (b + 0)), some (.int (nI k)), some (.int (nI i))] [] (wH G b tbM U h0) := by
    intro m
    induction m with
    | zero =>
      intro i U hm hU pU
      refine V_iload_n (pc := 2) (i := 2) dX12_goOn_2 rfl rfl ?_
      refine V_iload_n (pc := 3) (i := 1) dX12_goOn_3 rfl rfl ?_
      refine V_icmp_ge (pc := 4) 17 dX12_goOn_4 rfl (fun c4 => ?_) (fun c4 => ?_)
      · exact VE_vret (pc := 17) dX12_goOn_17 rfl rfl
      · exact absurd (by rw [show i = k by omega]; exact nI_le (by omega) (by omega)) c4
    | succ m ih =>
      intro i U hm hU pU
      rw [mSunN]
      refine V_iload_n (pc := 2) (i := 2) dX12_goOn_2 rfl rfl ?_
      refine V_iload_n (pc := 3) (i := 1) dX12_goOn_3 rfl rfl ?_
      refine V_icmp_ge (pc := 4) 17 dX12_goOn_4 rfl (fun c4 => ?_) (fun c4 => ?_)
      · exact absurd c4 (nI_ge (by omega) (by omega))
      · refine V_aload_n (pc := 7) (i := 0) dX12_goOn_7 rfl rfl ?_
        refine V_V0v (pc := 8) dX12_goOn_8 cX12_360 (by first | assumption | rfl) (X12_aSunday (d := 7) hU pU hb (by omega)) (Nat.le_of_ble_eq_true rfl) (by omega) (Nat.le_of_ble_eq_true rfl) ?_
        refine V_iinc (pc := 11) dX12_goOn_11 (by decide) rfl rfl (iincN (n := 1) (by decide)) ?_
        refine V_goto (pc := 14) 2 dX12_goOn_14 rfl ?_
        exact ih (i + 1) _ (by omega) (mSun_MI hU) (pU.same mSun_same)
  exact loop k 0 S rfl ci po
end M6
