/-! ===== the model: if only SUNDAYS go by ===== -/
section M7
variable {G : xG} {d : Nat} {b : Nat} {S T U : Nat → Nat → Int32} {h0 h : xH}
theorem hasB_or1 {x : Int32} {i j : Nat} (hi : i < 32) (hj : j < 32) : hasB (x ||| 1 <<< (nI i &&& 31)) (nI j) = (hasB x (nI j) || decide (j = i)) := by
  rw [hasB_bt hj, hasB_bt hj, b_or, b_shl1 hi hj]
/-- the bits of x are below k -/
def lowB (x : Int32) (k : Nat) : Prop := ∀ j, k ≤ j → j < 32 → bt x j = false
theorem lowB_in {x : Int32} {k : Nat} (h : lowB x k) : ∃ c, c < 2 ^ k ∧ x = nI c := by
  refine ⟨x.toBitVec.toNat, ?_, (nI_bv x).symm⟩
  refine Nat.lt_pow_two_of_testBit _ (fun i hi => ?_)
  by_cases h32 : i < 32
  · exact h i hi h32
  · exact BitVec.getLsbD_of_ge _ _ (by omega)
theorem mlF_has (lg : Nat → Int32) (x : Int32) : ∀ (m i : Nat) (z : Int32), i + m ≤ 32 → (mlF lg x m i z = z ∧ ∀ j, i ≤ j → j < i + m → z = -1 → hasB x (nI j) = false) ∨ ∃ j, i ≤ j ∧ j < i + m ∧ mlF lg x m i z = nI j ∧ hasB x (nI j) = true := by
  intro m
  induction m with
  | zero => intro i z _; exact Or.inl ⟨rfl, fun j h1 h2 => by omega⟩
  | succ m ih =>
    intro i z hi
    rw [mlF]
    by_cases h : hasB x (nI i) = true ∧ (z = -1 ∨ lg z.toNatClampNeg < lg i)
    · rw [if_pos h]
      rcases ih (i + 1) (nI i) (by omega) with ⟨e, -⟩ | ⟨j, h1, h2, h3, h4⟩
      · exact Or.inr ⟨i, by omega, by omega, e, h.1⟩
      · exact Or.inr ⟨j, by omega, by omega, h3, h4⟩
    · rw [if_neg h]
      rcases ih (i + 1) z (by omega) with ⟨e, k⟩ | ⟨j, h1, h2, h3, h4⟩
      · refine Or.inl ⟨e, fun j h1 h2 hz => ?_⟩
        by_cases q : j = i
        · subst q
          cases hb : hasB x (nI j) with
          | false => rfl
          | true => exact absurd ⟨hb, Or.inl hz⟩ h
        · exact k j (by omega) (by omega) hz
      · exact Or.inr ⟨j, by omega, by omega, h3, h4⟩
/-- g is among w -/
def subB (g w : Int32) : Prop := ∀ j, j < 32 → bt g j = true → bt w j = true
theorem goM_sub {lg : Nat → Int32} {w : Int32} {pp : Nat} (hpp : pp ≤ 31) (hw : lowB w pp) : ∀ (m : Nat) (g : Int32), subB g w → subB (goM (fun x => mlF lg x pp 0 (-1)) w m g) w := by
  intro m
  induction m with
  | zero => intro g h; exact h
  | succ m ih =>
    intro g h
    rw [goM]
    split
    · exact h
    · next ne =>
      refine ih _ ?_
      rcases mlF_has lg (w &&& (g ^^^ -1)) pp 0 (-1) (by omega) with ⟨-, e2⟩ | ⟨j, -, h2, h3, h4⟩
      · exfalso
        refine ne (b_ext (fun i hi => ?_))
        by_cases hp : i < pp
        · have := e2 i (by omega) (by omega) rfl
          rw [hasB_bt hi, b_and, b_not _ hi] at this
          cases hg : bt g i with
          | true => rw [h i hi hg]
          | false => rw [hg] at this; simpa using this.symm
        · rw [hw i (by omega) hi]
          cases hg : bt g i with
          | false => rfl
          | true => rw [← h i hi hg, hw i (by omega) hi]
      · rw [h3]
        intro i hi hb
        rw [b_or, b_shl1 (by omega) hi] at hb
        rcases Bool.or_eq_true _ _ |>.mp hb with q | q
        · exact h i hi q
        · have e : i = j := of_decide_eq_true q
          subst e
          rw [hasB_bt hi, b_and] at h4
          exact (Bool.and_eq_true _ _ |>.mp h4).1
theorem lowB_sub {g w : Int32} {k : Nat} (h : subB g w) (hw : lowB w k) : lowB g k := by
  intro j h1 h2
  cases e : bt g j with
  | false => rfl
  | true => rw [← h j h2 e]; exact hw j h1 h2
theorem lowB_0 (k : Nat) : lowB 0 k := fun j _ _ => b_0 j
theorem mWho_low {n r : Nat} : ∀ (m q : Nat) (x : Int32) (S : Nat → Nat → Int32), q + m ≤ 31 → lowB x q → lowB (mWho n r m q x S).1 (q + m) := by
  intro m
  induction m with
  | zero => intro q x S _ h; exact h
  | succ m ih =>
    intro q x S hq h
    rw [mWho, show q + (m + 1) = q + 1 + m by omega]
    refine ih (q + 1) _ _ (by omega) (fun j h1 h2 => ?_)
    split
    · rw [b_or, h j (by omega) h2, b_shl1 (by omega) h2]
      simp; omega
    · exact h j (by omega) h2
theorem mSun_33 {n r pp bb : Nat} (h8 : pp ≤ 8) : ∃ c, c < 256 ∧ mSun n r pp bb S 0 33 = nI c := by
  have hw : lowB (mWho n r pp 0 0 S).1 pp := by
    have := mWho_low (n := n) (r := r) pp 0 0 S (by omega) (lowB_0 0)
    rwa [Nat.zero_add] at this
  unfold mSun mSun2
  rw [up2_col (by decide), up2_same]
  unfold mGo
  rw [show mSun1 (mWho n r pp 0 0 S) 0 40 = (mWho n r pp 0 0 S).1 by rw [mSun1, up2_same]]
  obtain ⟨c, hc, e⟩ := lowB_in (lowB_sub (goM_sub (lg := mSun1 (mWho n r pp 0 0 S) 18) (by omega) hw bb 0 (fun j _ q => by rw [b_0] at q; cases q)) hw)
  exact ⟨c, Nat.lt_of_lt_of_le hc (Nat.pow_le_pow_right (by decide) (show pp ≤ 8 from h8)), e⟩
theorem inR_ok {k l m : Nat} (h1 : l ≤ k) (h2 : k ≤ m) (hm : m < 2 ^ 31) : inR (nI k) (nI l) (nI m) = true := by
  unfold inR
  rw [decide_eq_false (nI_nlt h1 (by omega)), decide_eq_false (nI_nlt h2 hm)]
  rfl
theorem X12_isInC (x : Int32) {l m : Int64} {l' m' : Int32} (hl : l'.toInt64 = l) (hm : m'.toInt64 = m) : VM G mX12_isIn d 0 0 [.long x.toInt64, .long l, .long m] (xE (some (.int (b2i (inR x l' m')))) h) h := by
  subst hl hm
  exact X12_isInR _ _ _
/-- a state is kept for a while -/
def mP (T : Nat → Nat → Int32) : Nat → Nat → Int32 := upR T 23 (pkR T 0 (T 23))
/-- .. and put back -/
def mBk (X : Nat → Nat → Int32) : Nat → Nat → Int32 := unR (X 23) 0 X
theorem mP_MI {n pp r bb : Nat} (ci : MI T n pp r bb) : MI (mP T) n pp r bb := ci.same (fun k h1 h2 => upR_row (by omega)) (by rw [mP, upR_row (by decide)])
theorem mP_same : mSame T (mP T) := mSame.upR mSame.refl (by decide)
theorem MI.cz {n pp r bb j : Nat} {x : Int32} (ci : MI S n pp r bb) (hj : j ≠ 35) : MI (up2 S 0 j x) n pp r bb := ci.same (fun k h1 h2 => up2_row (by omega)) (up2_col (by omega))
theorem PO.cz {pp j : Nat} {x : Int32} (po : PO S pp) : PO (up2 S 0 j x) pp := by
  intro q hq
  rw [up2_row (by decide), up2_row (by decide)]
  exact po q hq
theorem X12_packP (hb : gB G ≤ b) : VM G mX12_pack d 0 0 [.ref (b + 0), .ref (b + 23), .int 0] (xE none (wH G b tbM (mP T) h0)) (wH G b tbM T h0) := X12_pack (r := 23) (N := 36) (a := 0) rfl (by decide) (by decide) (by decide) hb
theorem X12_unpackP (hb : gB G ≤ b) : VM G mX12_unpack d 0 0 [.ref (b + 0), .ref (b + 23), .int 0] (xE none (wH G b tbM (mBk T) h0)) (wH G b tbM T h0) := X12_unpack (r := 23) (N := 36) (a := 0) rfl (by decide) (by decide) (by decide) hb
theorem mSunN_MI {n r pp bb : Nat} : ∀ (k : Nat) (U : Nat → Nat → Int32), MI U n pp r bb → MI (mSunN n r pp bb k U) n pp r bb := by
  intro k
  induction k with
  | zero => intro U h; exact h
  | succ k ih => intro U h; rw [mSunN]; exact ih _ (mSun_MI h)
theorem X12_crossing {n pp r bb k : Nat} (ci : MI S n pp r bb) (po : PO S pp) (hk1 : 1 ≤ k) (hk : k ≤ 60) (hb : gB G ≤ b) (hd : 9 ≤ d) : VM G mX12_crossing d 0 0 [.ref (b + 0), .int (nI k)] (xE (some (.int (mSunN n r pp bb k (mP (up2 S 0 2 0)) 0 33))) (wH G b tbM (mBk (mSunN n r pp bb k (mP (up2 S 0 2 0)))) h0)) (wH G b tbM S h0) := by
  have ciT := ci.cz (j := 2) (x := 0) (by decide)
  have poT := po.cz (j := 2) (x := 0)
  have hin : inR (nI k) 1 60 = true := inR_ok (l := 1) (m := 60) hk1 hk (by decide)
  refine VM_start (ls := [some (.ref (b + 0)), some (.int (nI k)), none]) rfl ?_
  -- %m X12_crossing
  refine V_aload_n (pc := 0) (i := 0) dX12_crossing_0 rfl rfl ?_
  refine V_iconst (pc := 1) (v := 0) dX12_crossing_1 (by decide) ?_
  refine VW_putI (pc := 2) dX12_crossing_2 fX12_139 ftX12 (fpI rfl rfl (tyX12_ok 2 (by decide))) (by first | assumption | rfl) rfl (by assumption) ?_
  generalize up2 S 0 2 0 = T at ciT poT ⊢
  refine V_iload_n (pc := 5) (i := 1) dX12_crossing_5 rfl rfl ?_
  refine V_i2l (pc := 6) dX12_crossing_6 rfl ?_
  refine V_lconst (pc := 7) (v := 1) dX12_crossing_7 (by decide) ?_
  refine V_ldc2 (pc := 8) dX12_crossing_8 lX12_410 ?_
  refine V_S3i (pc := 11) dX12_crossing_11 cX12_142 (X12_isInC (d := 0) _ (l' := 1) (m' := 60) (by decide) (by decide)) (Nat.le_of_ble_eq_true rfl) (by omega) (Nat.le_of_ble_eq_true rfl) ?_
  refine V_if_ne (pc := 14) 23 dX12_crossing_14 rfl (fun c14 => ?_) (fun c14 => ?_)
  · refine V_aload_n (pc := 23) (i := 0) dX12_crossing_23 rfl rfl ?_
    refine V_aload_n (pc := 24) (i := 0) dX12_crossing_24 rfl rfl ?_
    refine VW_getR (pc := 25) dX12_crossing_25 fX12_99 (by first | assumption | rfl) rfl ?_
    refine V_iconst (pc := 28) (v := 0) dX12_crossing_28 (by decide) ?_
    refine V_V2v (pc := 29) dX12_crossing_29 cX12_387 (by first | assumption | rfl) (X12_packP (d := 0) hb) (Nat.le_of_ble_eq_true rfl) (by omega) (Nat.le_of_ble_eq_true rfl) ?_
    refine V_aload_n (pc := 32) (i := 0) dX12_crossing_32 rfl rfl ?_
    refine V_iload_n (pc := 33) (i := 1) dX12_crossing_33 rfl rfl ?_
    refine V_V1v (pc := 34) dX12_crossing_34 cX12_399 (by first | assumption | rfl) (X12_goOn (d := 8) (mP_MI ciT) (poT.same mP_same) (by omega) hb (by omega)) (Nat.le_of_ble_eq_true rfl) (by omega) (Nat.le_of_ble_eq_true rfl) ?_
    refine V_aload_n (pc := 37) (i := 0) dX12_crossing_37 rfl rfl ?_
    refine VW_getI (pc := 38) dX12_crossing_38 fX12_302 (by first | assumption | rfl) rfl ?_
    refine V_istore_n (pc := 41) (i := 2) dX12_crossing_41 rfl (by decide) rfl ?_
    refine V_aload_n (pc := 42) (i := 0) dX12_crossing_42 rfl rfl ?_
    refine V_aload_n (pc := 43) (i := 0) dX12_crossing_43 rfl rfl ?_
    refine VW_getR (pc := 44) dX12_crossing_44 fX12_99 (by first | assumption | rfl) rfl ?_
    refine V_iconst (pc := 47) (v := 0) dX12_crossing_47 (by decide) ?_
    refine V_V2v (pc := 48) dX12_crossing_48 cX12_407 (by first | assumption | rfl) (X12_unpackP (d := 0) hb) (Nat.le_of_ble_eq_true rfl) (by omega) (Nat.le_of_ble_eq_true rfl) ?_
    refine V_iload_n (pc := 51) (i := 2) dX12_crossing_51 rfl rfl ?_
    exact VE_iret (pc := 52) dX12_crossing_52 rfl rfl rfl
  · rw [hin] at c14; exact absurd c14 (by decide)
theorem X12_then {n pp r bb q k v : Nat} (ci : MI S n pp r bb) (po : PO S pp) (hq : q < pp) (hk : k ≤ 60) (hv : v ≤ 1) (hb : gB G ≤ b) (hd : 9 ≤ d) : VM G mX12_then d 0 0 [.ref (b + 0), .int (nI q), .int (nI k), .int (nI v)] (xE (some (.int (if nI v = 0 then mSunN n r pp bb k (mP (up2 S 0 2 0)) 18 q else mSunN n r pp bb k (mP (up2 S 0 2 0)) 19 q))) (wH G b tbM (mBk (mSunN n r pp bb k (mP (up2 S 0 2 0)))) h0)) (wH G b tbM S h0) := by
  have ciT := ci.cz (j := 2) (x := 0) (by decide)
  have poT := po.cz (j := 2) (x := 0)
  have hin : inR (nI k) 0 60 = true := inR_ok (l := 0) (m := 60) (by omega) hk (by decide)
  refine VM_start (ls := [some (.ref (b + 0)), some (.int (nI q)), some (.int (nI k)), some (.int (nI v)), none]) rfl ?_
  -- %m X12_then
  refine V_aload_n (pc := 0) (i := 0) dX12_then_0 rfl rfl ?_
  refine V_iconst (pc := 1) (v := 0) dX12_then_1 (by decide) ?_
  refine VW_putI (pc := 2) dX12_then_2 fX12_139 ftX12 (fpI rfl rfl (tyX12_ok 2 (by decide))) (by first | assumption | rfl) rfl (by assumption) ?_
  generalize up2 S 0 2 0 = T at ciT poT ⊢
  obtain ⟨hn, h12, hg, hp, h8, -⟩ := id ciT
  have hqi : inR (nI q) 0 (T 3 0 - 1) = true := by rw [hp]; exact inR_pp hq (by omega)
  refine V_aload_n (pc := 5) (i := 0) dX12_then_5 rfl rfl ?_
  refine V_iload_n (pc := 6) (i := 1) dX12_then_6 rfl rfl ?_
  refine V_V1i (pc := 7) dX12_then_7 cX12_384 (by first | assumption | rfl) (X12_isPerson (d := 1) _ (by omega)) (Nat.le_of_ble_eq_true rfl) (by omega) (Nat.le_of_ble_eq_true rfl) ?_
  refine V_if_eq (pc := 10) 22 dX12_then_10 rfl (fun c10 => ?_) (fun c10 => ?_)
  · rw [hqi] at c10; exact absurd c10 (by decide)
  · refine V_iload_n (pc := 13) (i := 3) dX12_then_13 rfl rfl ?_
    refine V_if_lt (pc := 14) 22 dX12_then_14 rfl (fun c14 => ?_) (fun c14 => ?_)
    · exact absurd c14 (nI_pos (by omega))
    · refine V_iload_n (pc := 17) (i := 3) dX12_then_17 rfl rfl ?_
      refine V_iconst (pc := 18) (v := 1) dX12_then_18 (by decide) ?_
      refine V_icmp_le (pc := 19) 28 dX12_then_19 rfl (fun c19 => ?_) (fun c19 => ?_)
      · refine V_iload_n (pc := 28) (i := 2) dX12_then_28 rfl rfl ?_
        refine V_i2l (pc := 29) dX12_then_29 rfl ?_
        refine V_lconst (pc := 30) (v := 0) dX12_then_30 (by decide) ?_
        refine V_ldc2 (pc := 31) dX12_then_31 lX12_410 ?_
        refine V_S3i (pc := 34) dX12_then_34 cX12_142 (X12_isInC (d := 0) _ (l' := 0) (m' := 60) (by decide) (by decide)) (Nat.le_of_ble_eq_true rfl) (by omega) (Nat.le_of_ble_eq_true rfl) ?_
        refine V_if_ne (pc := 37) 46 dX12_then_37 rfl (fun c37 => ?_) (fun c37 => ?_)
        · refine V_aload_n (pc := 46) (i := 0) dX12_then_46 rfl rfl ?_
          refine V_aload_n (pc := 47) (i := 0) dX12_then_47 rfl rfl ?_
          refine VW_getR (pc := 48) dX12_then_48 fX12_99 (by first | assumption | rfl) rfl ?_
          refine V_iconst (pc := 51) (v := 0) dX12_then_51 (by decide) ?_
          refine V_V2v (pc := 52) dX12_then_52 cX12_387 (by first | assumption | rfl) (X12_packP (d := 0) hb) (Nat.le_of_ble_eq_true rfl) (by omega) (Nat.le_of_ble_eq_true rfl) ?_
          refine V_aload_n (pc := 55) (i := 0) dX12_then_55 rfl rfl ?_
          refine V_iload_n (pc := 56) (i := 2) dX12_then_56 rfl rfl ?_
          refine V_V1v (pc := 57) dX12_then_57 cX12_399 (by first | assumption | rfl) (X12_goOn (d := 8) (mP_MI ciT) (poT.same mP_same) (by omega) hb (by omega)) (Nat.le_of_ble_eq_true rfl) (by omega) (Nat.le_of_ble_eq_true rfl) ?_
          refine V_iload_n (pc := 60) (i := 3) dX12_then_60 rfl rfl ?_
          refine V_if_ne (pc := 61) 73 dX12_then_61 rfl (fun c61 => ?_) (fun c61 => ?_)
          · rw [if_neg c61]
            refine V_aload_n (pc := 73) (i := 0) dX12_then_73 rfl rfl ?_
            refine VW_getR (pc := 74) dX12_then_74 fX12_88 (by first | assumption | rfl) rfl ?_
            refine V_iload_n (pc := 77) (i := 1) dX12_then_77 rfl rfl ?_
            refine VW_ialdN (pc := 78) dX12_then_78 (by first | assumption | rfl) rfl (by omega) (by first | decide | omega) ?_
            refine V_istore (pc := 79) dX12_then_79 (by decide) rfl ?_
            refine V_aload_n (pc := 81) (i := 0) dX12_then_81 rfl rfl ?_
            refine V_aload_n (pc := 82) (i := 0) dX12_then_82 rfl rfl ?_
            refine VW_getR (pc := 83) dX12_then_83 fX12_99 (by first | assumption | rfl) rfl ?_
            refine V_iconst (pc := 86) (v := 0) dX12_then_86 (by decide) ?_
            refine V_V2v (pc := 87) dX12_then_87 cX12_407 (by first | assumption | rfl) (X12_unpackP (d := 0) hb) (Nat.le_of_ble_eq_true rfl) (by omega) (Nat.le_of_ble_eq_true rfl) ?_
            refine V_iload (pc := 90) dX12_then_90 rfl ?_
            exact VE_iret (pc := 92) dX12_then_92 rfl rfl rfl
          · rw [if_pos c61]
            refine V_aload_n (pc := 64) (i := 0) dX12_then_64 rfl rfl ?_
            refine VW_getR (pc := 65) dX12_then_65 fX12_86 (by first | assumption | rfl) rfl ?_
            refine V_iload_n (pc := 68) (i := 1) dX12_then_68 rfl rfl ?_
            refine VW_ialdN (pc := 69) dX12_then_69 (by first | assumption | rfl) rfl (by omega) (by first | decide | omega) ?_
            refine V_goto (pc := 70) 79 dX12_then_70 rfl ?_
            refine V_istore (pc := 79) dX12_then_79 (by decide) rfl ?_
            refine V_aload_n (pc := 81) (i := 0) dX12_then_81 rfl rfl ?_
            refine V_aload_n (pc := 82) (i := 0) dX12_then_82 rfl rfl ?_
            refine VW_getR (pc := 83) dX12_then_83 fX12_99 (by first | assumption | rfl) rfl ?_
            refine V_iconst (pc := 86) (v := 0) dX12_then_86 (by decide) ?_
            refine V_V2v (pc := 87) dX12_then_87 cX12_407 (by first | assumption | rfl) (X12_unpackP (d := 0) hb) (Nat.le_of_ble_eq_true rfl) (by omega) (Nat.le_of_ble_eq_true rfl) ?_
            refine V_iload (pc := 90) dX12_then_90 rfl ?_
            exact VE_iret (pc := 92) dX12_then_92 rfl rfl rfl
        · rw [hin] at c37; exact absurd c37 (by decide)
      · exact absurd (nI_le (b := 1) (by omega) (by decide)) c19
def mFst (st : (Nat → Nat → Int32) → Nat → Nat → Int32) (q : Nat) : Nat → Nat → (Nat → Nat → Int32) → Int32 × (Nat → Nat → Int32)
  | 0, _, T => (-1, T)
  | m + 1, k, T => if hasB (st T 0 33) (nI q) then (nI k, st T) else mFst st q m (k + 1) (st T)
theorem X12_first {n pp r bb q : Nat} (ci : MI S n pp r bb) (po : PO S pp) (hq : q < pp) (hb : gB G ≤ b) (hd : 9 ≤ d) : VM G mX12_first d 0 0 [.ref (b + 0), .int (nI q)] (xE (some (.int (mFst (mSun n r pp bb) q 60 1 (mP (up2 S 0 2 0))).1)) (wH G b tbM (mBk (mFst (mSun n r pp bb) q 60 1 (mP (up2 S 0 2 0))).2) h0)) (wH G b tbM S h0) := by
  have ciT := ci.cz (j := 2) (x := 0) (by decide)
  have poT := po.cz (j := 2) (x := 0)
  refine VM_start (ls := [some (.ref (b + 0)), some (.int (nI q)), none, none]) rfl ?_
  -- %m X12_first
  have loop : ∀ (m k : Nat) (U : Nat → Nat → Int32), m + k = 61 → MI U n pp r bb → PO U pp → V G mX12_first d 0 0 (xE (some (.int (mFst (mSun n r pp bb) q m k U).1)) (wH G b tbM (mBk (mFst (mSun n r pp bb) q m k U).2) h0)) 32 [some (.ref (b + 0)), some (.int (nI q)), some (.int (-1)), some (.int (nI k))] [] (wH G b tbM U h0) := by
    intro m
    induction m with
    | zero =>
      intro k U hm hU pU
      refine V_iload_n (pc := 32) (i := 3) dX12_first_32 rfl rfl ?_
      refine V_bipush (pc := 33) (v := 60) dX12_first_33 (by decide) ?_
      refine V_icmp_gt (pc := 35) 66 dX12_first_35 rfl (fun c35 => ?_) (fun c35 => ?_)
      · refine V_aload_n (pc := 66) (i := 0) dX12_first_66 rfl rfl ?_
        refine V_aload_n (pc := 67) (i := 0) dX12_first_67 rfl rfl ?_
        refine VW_getR (pc := 68) dX12_first_68 fX12_99 (by first | assumption | rfl) rfl ?_
        refine V_iconst (pc := 71) (v := 0) dX12_first_71 (by decide) ?_
        refine V_V2v (pc := 72) dX12_first_72 cX12_407 (by first | assumption | rfl) (X12_unpackP (d := 0) hb) (Nat.le_of_ble_eq_true rfl) (by omega) (Nat.le_of_ble_eq_true rfl) ?_
        refine V_iload_n (pc := 75) (i := 2) dX12_first_75 rfl rfl ?_
        exact VE_iret (pc := 76) dX12_first_76 rfl rfl rfl
      · exact absurd (by rw [show k = 61 by omega]; decide) c35
    | succ m ih =>
      intro k U hm hU pU
      rw [mFst]
      refine V_iload_n (pc := 32) (i := 3) dX12_first_32 rfl rfl ?_
      refine V_bipush (pc := 33) (v := 60) dX12_first_33 (by decide) ?_
      refine V_icmp_gt (pc := 35) 66 dX12_first_35 rfl (fun c35 => ?_) (fun c35 => ?_)
      · exact absurd c35 (nI_nlt (a := 60) (by omega) (by decide))
      · refine V_iload_n (pc := 38) (i := 2) dX12_first_38 rfl rfl ?_
        refine V_iconst (pc := 39) (v := -1) dX12_first_39 (by decide) ?_
        refine V_icmp_ne (pc := 40) 66 dX12_first_40 rfl (fun c40 => ?_) (fun c40 => ?_)
        · exact absurd rfl c40
        · refine V_aload_n (pc := 43) (i := 0) dX12_first_43 rfl rfl ?_
          refine V_V0v (pc := 44) dX12_first_44 cX12_360 (by first | assumption | rfl) (X12_aSunday (d := 7) hU pU hb (by omega)) (Nat.le_of_ble_eq_true rfl) (by omega) (Nat.le_of_ble_eq_true rfl) ?_
          refine V_aload_n (pc := 47) (i := 0) dX12_first_47 rfl rfl ?_
          refine VW_getI (pc := 48) dX12_first_48 fX12_302 (by first | assumption | rfl) rfl ?_
          refine V_iload_n (pc := 51) (i := 1) dX12_first_51 rfl rfl ?_
          refine V_S2i (pc := 52) dX12_first_52 cX12_263 (X12_isOf (d := 0) _ _) (Nat.le_of_ble_eq_true rfl) (by omega) (Nat.le_of_ble_eq_true rfl) ?_
          refine V_if_eq (pc := 55) 60 dX12_first_55 rfl (fun c55 => ?_) (fun c55 => ?_)
          · rw [if_neg (by rw [b2i_0.mp c55]; decide)]
            refine V_iinc (pc := 60) dX12_first_60 (by decide) rfl rfl (iincN (n := 1) (by decide)) ?_
            refine V_goto (pc := 63) 32 dX12_first_63 rfl ?_
            exact ih (k + 1) _ (by omega) (mSun_MI hU) (pU.same mSun_same)
          · rw [if_pos (b2i_n0.mp c55)]
            refine V_iload_n (pc := 58) (i := 3) dX12_first_58 rfl rfl ?_
            refine V_istore_n (pc := 59) (i := 2) dX12_first_59 rfl (by decide) rfl ?_
            refine V_iinc (pc := 60) dX12_first_60 (by decide) rfl rfl (iincN (n := 1) (by decide)) ?_
            refine V_goto (pc := 63) 32 dX12_first_63 rfl ?_
            refine V_iload_n (pc := 32) (i := 3) dX12_first_32 rfl rfl ?_
            refine V_bipush (pc := 33) (v := 60) dX12_first_33 (by decide) ?_
            refine V_icmp_gt (pc := 35) 66 dX12_first_35 rfl (fun c35b => ?_) (fun c35b => ?_)
            · refine V_aload_n (pc := 66) (i := 0) dX12_first_66 rfl rfl ?_
              refine V_aload_n (pc := 67) (i := 0) dX12_first_67 rfl rfl ?_
              refine VW_getR (pc := 68) dX12_first_68 fX12_99 (by first | assumption | rfl) rfl ?_
              refine V_iconst (pc := 71) (v := 0) dX12_first_71 (by decide) ?_
              refine V_V2v (pc := 72) dX12_first_72 cX12_407 (by first | assumption | rfl) (X12_unpackP (d := 0) hb) (Nat.le_of_ble_eq_true rfl) (by omega) (Nat.le_of_ble_eq_true rfl) ?_
              refine V_iload_n (pc := 75) (i := 2) dX12_first_75 rfl rfl ?_
              exact VE_iret (pc := 76) dX12_first_76 rfl rfl rfl
            · refine V_iload_n (pc := 38) (i := 2) dX12_first_38 rfl rfl ?_
              refine V_iconst (pc := 39) (v := -1) dX12_first_39 (by decide) ?_
              refine V_icmp_ne (pc := 40) 66 dX12_first_40 rfl (fun c40b => ?_) (fun c40b => ?_)
              · refine V_aload_n (pc := 66) (i := 0) dX12_first_66 rfl rfl ?_
                refine V_aload_n (pc := 67) (i := 0) dX12_first_67 rfl rfl ?_
                refine VW_getR (pc := 68) dX12_first_68 fX12_99 (by first | assumption | rfl) rfl ?_
                refine V_iconst (pc := 71) (v := 0) dX12_first_71 (by decide) ?_
                refine V_V2v (pc := 72) dX12_first_72 cX12_407 (by first | assumption | rfl) (X12_unpackP (d := 0) hb) (Nat.le_of_ble_eq_true rfl) (by omega) (Nat.le_of_ble_eq_true rfl) ?_
                refine V_iload_n (pc := 75) (i := 2) dX12_first_75 rfl rfl ?_
                exact VE_iret (pc := 76) dX12_first_76 rfl rfl rfl
              · exact absurd c40b (nI_m1 (by omega))
  refine V_aload_n (pc := 0) (i := 0) dX12_first_0 rfl rfl ?_
  refine V_iconst (pc := 1) (v := 0) dX12_first_1 (by decide) ?_
  refine VW_putI (pc := 2) dX12_first_2 fX12_139 ftX12 (fpI rfl rfl (tyX12_ok 2 (by decide))) (by first | assumption | rfl) rfl (by assumption) ?_
  generalize up2 S 0 2 0 = T at ciT poT ⊢
  obtain ⟨hn, h12, hg, hp, h8, -⟩ := id ciT
  have hqi : inR (nI q) 0 (T 3 0 - 1) = true := by rw [hp]; exact inR_pp hq (by omega)
  refine V_aload_n (pc := 5) (i := 0) dX12_first_5 rfl rfl ?_
  refine V_iload_n (pc := 6) (i := 1) dX12_first_6 rfl rfl ?_
  refine V_V1i (pc := 7) dX12_first_7 cX12_384 (by first | assumption | rfl) (X12_isPerson (d := 1) _ (by omega)) (Nat.le_of_ble_eq_true rfl) (by omega) (Nat.le_of_ble_eq_true rfl) ?_
  refine V_if_ne (pc := 10) 19 dX12_first_10 rfl (fun c10 => ?_) (fun c10 => ?_)
  · refine V_aload_n (pc := 19) (i := 0) dX12_first_19 rfl rfl ?_
    refine V_aload_n (pc := 20) (i := 0) dX12_first_20 rfl rfl ?_
    refine VW_getR (pc := 21) dX12_first_21 fX12_99 (by first | assumption | rfl) rfl ?_
    refine V_iconst (pc := 24) (v := 0) dX12_first_24 (by decide) ?_
    refine V_V2v (pc := 25) dX12_first_25 cX12_387 (by first | assumption | rfl) (X12_packP (d := 0) hb) (Nat.le_of_ble_eq_true rfl) (by omega) (Nat.le_of_ble_eq_true rfl) ?_
    refine V_iconst (pc := 28) (v := -1) dX12_first_28 (by decide) ?_
    refine V_istore_n (pc := 29) (i := 2) dX12_first_29 rfl (by decide) rfl ?_
    refine V_iconst (pc := 30) (v := 1) dX12_first_30 (by decide) ?_
    refine V_istore_n (pc := 31) (i := 3) dX12_first_31 rfl (by decide) rfl ?_
    exact loop 60 1 _ rfl (mP_MI ciT) (poT.same mP_same)
  · rw [hqi] at c10; exact absurd c10 (by decide)
def mCnt (st : (Nat → Nat → Int32) → Nat → Nat → Int32) (g : (Nat → Nat → Int32) → Int32) (q : Nat) : Nat → Int32 → (Nat → Nat → Int32) → Int32
  | 0, x, _ => x
  | m + 1, x, T => mCnt st g q m (x + b2i (hasB (g (st T)) (nI q))) (st T)
theorem X12_waiting {n pp r bb q k : Nat} (ci : MI S n pp r bb) (po : PO S pp) (hq : q < pp) (hk : k ≤ 60) (hb : gB G ≤ b) (hd : 9 ≤ d) : VM G mX12_waiting d 0 0 [.ref (b + 0), .int (nI q), .int (nI k)] (xE (some (.int (mCnt (mSun n r pp bb) (fun T => T 0 40 &&& (T 0 33 ^^^ -1)) q k 0 (mP (up2 S 0 2 0))))) (wH G b tbM (mBk (mSunN n r pp bb k (mP (up2 S 0 2 0)))) h0)) (wH G b tbM S h0) := by
  have ciT := ci.cz (j := 2) (x := 0) (by decide)
  have poT := po.cz (j := 2) (x := 0)
  have hin : inR (nI k) 0 60 = true := inR_ok (l := 0) (m := 60) (by omega) hk (by decide)
  refine VM_start (ls := [some (.ref (b + 0)), some (.int (nI q)), some (.int (nI k)), none, none]) rfl ?_
  -- %m X12_waiting
  have loop : ∀ (m i : Nat) (x : Int32) (U : Nat → Nat → Int32), m + i = k → MI U n pp r bb → PO U pp → V G mX12_waiting d 0 0 (xE (some (.int (mCnt (mSun n r pp bb) (fun T => T 0 40 &&& (T 0 33 ^^^ -1)) q m x U))) (wH G b tbM (mBk (mSunN n r pp bb m U)) h0)) 51 [some (.ref (b + 0)), some (.int (nI q)), some (.int (nI k)), some (.int x), some (.int (nI i))] [] (wH G b tbM U h0) := by
    intro m
    induction m with
    | zero =>
      intro i x U hm hU pU
      refine V_iload (pc := 51) dX12_waiting_51 rfl ?_
      refine V_iload_n (pc := 53) (i := 2) dX12_waiting_53 rfl rfl ?_
      refine V_icmp_ge (pc := 54) 85 dX12_waiting_54 rfl (fun c54 => ?_) (fun c54 => ?_)
      · refine V_aload_n (pc := 85) (i := 0) dX12_waiting_85 rfl rfl ?_
        refine V_aload_n (pc := 86) (i := 0) dX12_waiting_86 rfl rfl ?_
        refine VW_getR (pc := 87) dX12_waiting_87 fX12_99 (by first | assumption | rfl) rfl ?_
        refine V_iconst (pc := 90) (v := 0) dX12_waiting_90 (by decide) ?_
        refine V_V2v (pc := 91) dX12_waiting_91 cX12_407 (by first | assumption | rfl) (X12_unpackP (d := 0) hb) (Nat.le_of_ble_eq_true rfl) (by omega) (Nat.le_of_ble_eq_true rfl) ?_
        refine V_iload_n (pc := 94) (i := 3) dX12_waiting_94 rfl rfl ?_
        exact VE_iret (pc := 95) dX12_waiting_95 rfl rfl rfl
      · exact absurd (by rw [show i = k by omega]; exact nI_le (by omega) (by omega)) c54
    | succ m ih =>
      intro i x U hm hU pU
      rw [mCnt, mSunN]
      refine V_iload (pc := 51) dX12_waiting_51 rfl ?_
      refine V_iload_n (pc := 53) (i := 2) dX12_waiting_53 rfl rfl ?_
      refine V_icmp_ge (pc := 54) 85 dX12_waiting_54 rfl (fun c54 => ?_) (fun c54 => ?_)
      · exact absurd c54 (nI_ge (by omega) (by omega))
      · refine V_aload_n (pc := 57) (i := 0) dX12_waiting_57 rfl rfl ?_
        refine V_V0v (pc := 58) dX12_waiting_58 cX12_360 (by first | assumption | rfl) (X12_aSunday (d := 7) hU pU hb (by omega)) (Nat.le_of_ble_eq_true rfl) (by omega) (Nat.le_of_ble_eq_true rfl) ?_
        refine V_iload_n (pc := 61) (i := 3) dX12_waiting_61 rfl rfl ?_
        refine V_aload_n (pc := 62) (i := 0) dX12_waiting_62 rfl rfl ?_
        refine VW_getI (pc := 63) dX12_waiting_63 fX12_348 (by first | assumption | rfl) rfl ?_
        refine V_aload_n (pc := 66) (i := 0) dX12_waiting_66 rfl rfl ?_
        refine VW_getI (pc := 67) dX12_waiting_67 fX12_302 (by first | assumption | rfl) rfl ?_
        refine V_iconst (pc := 70) (v := -1) dX12_waiting_70 (by decide) ?_
        refine V_ixor (pc := 71) dX12_waiting_71 ?_
        refine V_iand (pc := 72) dX12_waiting_72 ?_
        refine V_iload_n (pc := 73) (i := 1) dX12_waiting_73 rfl rfl ?_
        refine V_ishr (pc := 74) dX12_waiting_74 ?_
        refine V_iconst (pc := 75) (v := 1) dX12_waiting_75 (by decide) ?_
        refine V_iand (pc := 76) dX12_waiting_76 ?_
        rw [shr1]
        refine V_iadd (pc := 77) dX12_waiting_77 ?_
        refine V_istore_n (pc := 78) (i := 3) dX12_waiting_78 rfl (by decide) rfl ?_
        refine V_iinc (pc := 79) dX12_waiting_79 (by decide) rfl rfl (iincN (n := 1) (by decide)) ?_
        refine V_goto (pc := 82) 51 dX12_waiting_82 rfl ?_
        exact ih (i + 1) _ _ (by omega) (mSun_MI hU) (pU.same mSun_same)
  refine V_aload_n (pc := 0) (i := 0) dX12_waiting_0 rfl rfl ?_
  refine V_iconst (pc := 1) (v := 0) dX12_waiting_1 (by decide) ?_
  refine VW_putI (pc := 2) dX12_waiting_2 fX12_139 ftX12 (fpI rfl rfl (tyX12_ok 2 (by decide))) (by first | assumption | rfl) rfl (by assumption) ?_
  generalize up2 S 0 2 0 = T at ciT poT ⊢
  obtain ⟨hn, h12, hg, hp, h8, -⟩ := id ciT
  have hqi : inR (nI q) 0 (T 3 0 - 1) = true := by rw [hp]; exact inR_pp hq (by omega)
  refine V_aload_n (pc := 5) (i := 0) dX12_waiting_5 rfl rfl ?_
  refine V_iload_n (pc := 6) (i := 1) dX12_waiting_6 rfl rfl ?_
  refine V_V1i (pc := 7) dX12_waiting_7 cX12_384 (by first | assumption | rfl) (X12_isPerson (d := 1) _ (by omega)) (Nat.le_of_ble_eq_true rfl) (by omega) (Nat.le_of_ble_eq_true rfl) ?_
  refine V_if_ne (pc := 10) 19 dX12_waiting_10 rfl (fun c10 => ?_) (fun c10 => ?_)
  · refine V_iload_n (pc := 19) (i := 2) dX12_waiting_19 rfl rfl ?_
    refine V_i2l (pc := 20) dX12_waiting_20 rfl ?_
    refine V_lconst (pc := 21) (v := 0) dX12_waiting_21 (by decide) ?_
    refine V_ldc2 (pc := 22) dX12_waiting_22 lX12_410 ?_
    refine V_S3i (pc := 25) dX12_waiting_25 cX12_142 (X12_isInC (d := 0) _ (l' := 0) (m' := 60) (by decide) (by decide)) (Nat.le_of_ble_eq_true rfl) (by omega) (Nat.le_of_ble_eq_true rfl) ?_
    refine V_if_ne (pc := 28) 37 dX12_waiting_28 rfl (fun c28 => ?_) (fun c28 => ?_)
    · refine V_aload_n (pc := 37) (i := 0) dX12_waiting_37 rfl rfl ?_
      refine V_aload_n (pc := 38) (i := 0) dX12_waiting_38 rfl rfl ?_
      refine VW_getR (pc := 39) dX12_waiting_39 fX12_99 (by first | assumption | rfl) rfl ?_
      refine V_iconst (pc := 42) (v := 0) dX12_waiting_42 (by decide) ?_
      refine V_V2v (pc := 43) dX12_waiting_43 cX12_387 (by first | assumption | rfl) (X12_packP (d := 0) hb) (Nat.le_of_ble_eq_true rfl) (by omega) (Nat.le_of_ble_eq_true rfl) ?_
      refine V_iconst (pc := 46) (v := 0) dX12_waiting_46 (by decide) ?_
      refine V_istore_n (pc := 47) (i := 3) dX12_waiting_47 rfl (by decide) rfl ?_
      refine V_iconst (pc := 48) (v := 0) dX12_waiting_48 (by decide) ?_
      refine V_istore (pc := 49) dX12_waiting_49 (by decide) rfl ?_
      exact loop k 0 0 _ rfl (mP_MI ciT) (poT.same mP_same)
    · rw [hin] at c28; exact absurd c28 (by decide)
  · rw [hqi] at c10; exact absurd c10 (by decide)
theorem X12_times {n pp r bb q k : Nat} (ci : MI S n pp r bb) (po : PO S pp) (hq : q < pp) (hk : k ≤ 60) (hb : gB G ≤ b) (hd : 9 ≤ d) : VM G mX12_times d 0 0 [.ref (b + 0), .int (nI q), .int (nI k)] (xE (some (.int (mCnt (mSun n r pp bb) (fun T => T 0 33) q k 0 (mP (up2 S 0 2 0))))) (wH G b tbM (mBk (mSunN n r pp bb k (mP (up2 S 0 2 0)))) h0)) (wH G b tbM S h0) := by
  have ciT := ci.cz (j := 2) (x := 0) (by decide)
  have poT := po.cz (j := 2) (x := 0)
  have hin : inR (nI k) 0 60 = true := inR_ok (l := 0) (m := 60) (by omega) hk (by decide)
  refine VM_start (ls := [some (.ref (b + 0)), some (.int (nI q)), some (.int (nI k)), none, none]) rfl ?_
  -- %m X12_times
  have loop : ∀ (m i : Nat) (x : Int32) (U : Nat → Nat → Int32), m + i = k → MI U n pp r bb → PO U pp → V G mX12_times d 0 0 (xE (some (.int (mCnt (mSun n r pp bb) (fun T => T 0 33) q m x U))) (wH G b tbM (mBk (mSunN n r pp bb m U)) h0)) 51 [some (.ref (b + 0)), some (.int (nI q)), some (.int (nI k)), some (.int x), some (.int (nI i))] [] (wH G b tbM U h0) := by
    intro m
    induction m with
    | zero =>
      intro i x U hm hU pU
      refine V_iload (pc := 51) dX12_times_51 rfl ?_
      refine V_iload_n (pc := 53) (i := 2) dX12_times_53 rfl rfl ?_
      refine V_icmp_ge (pc := 54) 78 dX12_times_54 rfl (fun c54 => ?_) (fun c54 => ?_)
      · refine V_aload_n (pc := 78) (i := 0) dX12_times_78 rfl rfl ?_
        refine V_aload_n (pc := 79) (i := 0) dX12_times_79 rfl rfl ?_
        refine VW_getR (pc := 80) dX12_times_80 fX12_99 (by first | assumption | rfl) rfl ?_
        refine V_iconst (pc := 83) (v := 0) dX12_times_83 (by decide) ?_
        refine V_V2v (pc := 84) dX12_times_84 cX12_407 (by first | assumption | rfl) (X12_unpackP (d := 0) hb) (Nat.le_of_ble_eq_true rfl) (by omega) (Nat.le_of_ble_eq_true rfl) ?_
        refine V_iload_n (pc := 87) (i := 3) dX12_times_87 rfl rfl ?_
        exact VE_iret (pc := 88) dX12_times_88 rfl rfl rfl
      · exact absurd (by rw [show i = k by omega]; exact nI_le (by omega) (by omega)) c54
    | succ m ih =>
      intro i x U hm hU pU
      rw [mCnt, mSunN]
      refine V_iload (pc := 51) dX12_times_51 rfl ?_
      refine V_iload_n (pc := 53) (i := 2) dX12_times_53 rfl rfl ?_
      refine V_icmp_ge (pc := 54) 78 dX12_times_54 rfl (fun c54 => ?_) (fun c54 => ?_)
      · exact absurd c54 (nI_ge (by omega) (by omega))
      · refine V_aload_n (pc := 57) (i := 0) dX12_times_57 rfl rfl ?_
        refine V_V0v (pc := 58) dX12_times_58 cX12_360 (by first | assumption | rfl) (X12_aSunday (d := 7) hU pU hb (by omega)) (Nat.le_of_ble_eq_true rfl) (by omega) (Nat.le_of_ble_eq_true rfl) ?_
        refine V_iload_n (pc := 61) (i := 3) dX12_times_61 rfl rfl ?_
        refine V_aload_n (pc := 62) (i := 0) dX12_times_62 rfl rfl ?_
        refine VW_getI (pc := 63) dX12_times_63 fX12_302 (by first | assumption | rfl) rfl ?_
        refine V_iload_n (pc := 66) (i := 1) dX12_times_66 rfl rfl ?_
        refine V_ishr (pc := 67) dX12_times_67 ?_
        refine V_iconst (pc := 68) (v := 1) dX12_times_68 (by decide) ?_
        refine V_iand (pc := 69) dX12_times_69 ?_
        rw [shr1]
        refine V_iadd (pc := 70) dX12_times_70 ?_
        refine V_istore_n (pc := 71) (i := 3) dX12_times_71 rfl (by decide) rfl ?_
        refine V_iinc (pc := 72) dX12_times_72 (by decide) rfl rfl (iincN (n := 1) (by decide)) ?_
        refine V_goto (pc := 75) 51 dX12_times_75 rfl ?_
        exact ih (i + 1) _ _ (by omega) (mSun_MI hU) (pU.same mSun_same)
  refine V_aload_n (pc := 0) (i := 0) dX12_times_0 rfl rfl ?_
  refine V_iconst (pc := 1) (v := 0) dX12_times_1 (by decide) ?_
  refine VW_putI (pc := 2) dX12_times_2 fX12_139 ftX12 (fpI rfl rfl (tyX12_ok 2 (by decide))) (by first | assumption | rfl) rfl (by assumption) ?_
  generalize up2 S 0 2 0 = T at ciT poT ⊢
  obtain ⟨hn, h12, hg, hp, h8, -⟩ := id ciT
  have hqi : inR (nI q) 0 (T 3 0 - 1) = true := by rw [hp]; exact inR_pp hq (by omega)
  refine V_aload_n (pc := 5) (i := 0) dX12_times_5 rfl rfl ?_
  refine V_iload_n (pc := 6) (i := 1) dX12_times_6 rfl rfl ?_
  refine V_V1i (pc := 7) dX12_times_7 cX12_384 (by first | assumption | rfl) (X12_isPerson (d := 1) _ (by omega)) (Nat.le_of_ble_eq_true rfl) (by omega) (Nat.le_of_ble_eq_true rfl) ?_
  refine V_if_ne (pc := 10) 19 dX12_times_10 rfl (fun c10 => ?_) (fun c10 => ?_)
  · refine V_iload_n (pc := 19) (i := 2) dX12_times_19 rfl rfl ?_
    refine V_i2l (pc := 20) dX12_times_20 rfl ?_
    refine V_lconst (pc := 21) (v := 0) dX12_times_21 (by decide) ?_
    refine V_ldc2 (pc := 22) dX12_times_22 lX12_410 ?_
    refine V_S3i (pc := 25) dX12_times_25 cX12_142 (X12_isInC (d := 0) _ (l' := 0) (m' := 60) (by decide) (by decide)) (Nat.le_of_ble_eq_true rfl) (by omega) (Nat.le_of_ble_eq_true rfl) ?_
    refine V_if_ne (pc := 28) 37 dX12_times_28 rfl (fun c28 => ?_) (fun c28 => ?_)
    · refine V_aload_n (pc := 37) (i := 0) dX12_times_37 rfl rfl ?_
      refine V_aload_n (pc := 38) (i := 0) dX12_times_38 rfl rfl ?_
      refine VW_getR (pc := 39) dX12_times_39 fX12_99 (by first | assumption | rfl) rfl ?_
      refine V_iconst (pc := 42) (v := 0) dX12_times_42 (by decide) ?_
      refine V_V2v (pc := 43) dX12_times_43 cX12_387 (by first | assumption | rfl) (X12_packP (d := 0) hb) (Nat.le_of_ble_eq_true rfl) (by omega) (Nat.le_of_ble_eq_true rfl) ?_
      refine V_iconst (pc := 46) (v := 0) dX12_times_46 (by decide) ?_
      refine V_istore_n (pc := 47) (i := 3) dX12_times_47 rfl (by decide) rfl ?_
      refine V_iconst (pc := 48) (v := 0) dX12_times_48 (by decide) ?_
      refine V_istore (pc := 49) dX12_times_49 (by decide) rfl ?_
      exact loop k 0 0 _ rfl (mP_MI ciT) (poT.same mP_same)
    · rw [hin] at c28; exact absurd c28 (by decide)
  · rw [hqi] at c10; exact absurd c10 (by decide)
end M7
