/-! ===== class and model: SUNDAYS that go by are the same ===== -/
section R3
variable {S T X : Nat → Nat → Int32} {s n pp r bb : Nat}
/-- how it stands, on both sides -/
def LV (S T : Nat → Nat → Int32) (k pp : Nat) : Prop := (T 0 32 = S k 6 ∧ T 0 33 = S k 7 ∧ T 0 34 = S k 4) ∧ ∀ q, q < pp → T 16 q = S (k + 1) q ∧ T 17 q = S (k + 2) q ∧ T 18 q = S (k + 3) q ∧ T 19 q = S (k + 4) q
theorem cpy_at {f g : Nat → Int32} {sp dp m j : Nat} (h : j < m) : va_cpy f g sp dp m (dp + j) = f (sp + j) := by
  unfold va_cpy
  rw [if_pos ⟨by omega, by omega⟩, Nat.add_sub_cancel_left]
theorem cpy_at0 {f g : Nat → Int32} {m j : Nat} (h : j < m) : va_cpy f g 0 0 m j = f j := by
  have := cpy_at (f := f) (g := g) (sp := 0) (dp := 0) h
  rwa [Nat.zero_add] at this
/-- what q would have over there, as the class and as the model reckon it -/
theorem there_eq {k q : Nat} (h : SH S T s n pp r) (h12 : n ≤ 12) (lv : LV S T k pp) (hq : q < pp) : cThere S s k n q = mThere T n q ∧ cSpare S s k n q = mSpare T n q := by
  obtain ⟨⟨-, -, e3⟩, e4⟩ := lv
  obtain ⟨a1, a2, -, -⟩ := e4 q hq
  unfold cThere cSpare mThere mSpare
  rw [all_eq h.1 h12, all_eq h.1 h12, ← e3, ← a1, ← a2, h.2.2.1 q hq]
  exact ⟨rfl, rfl⟩
theorem worth_eq (h : SH S T s n pp r) (x : Int32) : sumB (S (s + 1)) x 10 0 0 = sumB (T 4) x 10 0 0 := sumB_congr 10 0 0 (fun j _ hj => h.2.1 j (by omega))
theorem cF_row {S' : Nat → Nat → Int32} {dn : Int32} (a : ∀ k, s + 2 ≤ k → k ≤ s + 5 → S' k = S k) : cF S' (s + 2) n dn = cF S (s + 2) n dn := by
  funext t
  unfold cF
  rw [a (s + 2 + 1) (by omega) (by omega), a (s + 2 + 2) (by omega) (by omega), a (s + 2 + 3) (by omega) (by omega), a (s + 2) (by omega) (by omega)]
theorem cThere_row {S' : Nat → Nat → Int32} {k q : Nat} (a : ∀ k, s ≤ k → k ≤ s + 9 → S' k = S k) (c : ∀ j, k ≤ j → j ≤ k + 2 → S' j = S j) : cThere S' s k n q = cThere S s k n q ∧ cSpare S' s k n q = cSpare S s k n q := by
  unfold cThere cSpare
  rw [cF_row (fun k h1 h2 => a k (by omega) (by omega)), a (s + 5) (by omega) (by omega), a (s + 9) (by omega) (by omega), c k (by omega) (by omega), c (k + 1) (by omega) (by omega), c (k + 2) (by omega) (by omega)]
  exact ⟨rfl, rfl⟩
theorem settles_v (hs : s = 4 ∨ s = 44) : ∀ (m q : Nat) (S : Nat → Nat → Int32) (j : Nat), (j < q → wkSettles s n m q S 63 j = S 63 j ∧ wkSettles s n m q S 64 j = S 64 j ∧ wkSettles s n m q S 65 j = S 65 j ∧ wkSettles s n m q S 66 j = S 66 j) ∧ (q ≤ j → j < q + m → wkSettles s n m q S 63 j = cThere S s 58 n j ∧ wkSettles s n m q S 64 j = sumB (S (s + 1)) (S 59 j) 10 0 0 ∧ wkSettles s n m q S 65 j = sumB (S (s + 1)) (cThere S s 58 n j) 10 0 0 ∧ wkSettles s n m q S 66 j = sumB (S (s + 1)) (cSpare S s 58 n j) 10 0 0) := by
  intro m
  induction m with
  | zero => intro q S j; exact ⟨fun _ => ⟨rfl, rfl, rfl, rfl⟩, fun _ _ => by omega⟩
  | succ m ih =>
    intro q S j
    rw [wkSettles]
    obtain ⟨i1, i2⟩ := ih (q + 1) (wkSettle S s n q) j
    have off : ∀ k, k < 63 → wkSettle S s n q k = S k := fun k hk => wkSettle_off (Or.inl hk)
    refine ⟨fun hj => ?_, fun h1 h2 => ?_⟩
    · obtain ⟨e1, e2, e3, e4⟩ := i1 (by omega)
      rw [e1, e2, e3, e4]
      unfold wkSettle
      simp (disch := omega) only [up2_row, up2_col, and_self]
    · by_cases e : j = q
      · subst e
        obtain ⟨e1, e2, e3, e4⟩ := i1 (by omega)
        rw [e1, e2, e3, e4]
        unfold wkSettle
        simp (disch := omega) only [up2_row, up2_same, and_self]
      · obtain ⟨e1, e2, e3, e4⟩ := i2 (by omega) (by omega)
        obtain ⟨t1, t2⟩ := cThere_row (s := s) (n := n) (k := 58) (q := j) (S := S) (S' := wkSettle S s n q) (fun k _ _ => off k (by omega)) (fun k _ _ => off k (by omega))
        rw [e1, e2, e3, e4, t1, t2, off (s + 1) (by omega), off 59 (by omega)]
        exact ⟨rfl, rfl, rfl, rfl⟩
theorem WR.tm {T' : Nat → Nat → Int32} (h : WR S T s n pp r bb) (c : ∀ k, 3 ≤ k → k ≤ 19 → T' k = T k) (c0 : ∀ j, 32 ≤ j → j ≤ 34 → T' 0 j = T 0 j) : WR S T' s n pp r bb := by
  obtain ⟨h1, h2, h3, h4, h5⟩ := h
  have sm : mSame T T' := ⟨fun k _ _ => c k (by omega) (by omega), c0 34 (by decide) (by decide)⟩
  refine ⟨h1, h2.off (fun _ _ _ _ => rfl) (fun k _ _ => c k (by omega) (by omega)), ?_, ?_, ?_⟩
  · rw [c0 32 (by decide) (by decide), c0 33 (by decide) (by decide), c0 34 (by decide) (by decide)]
    exact h3
  · rw [c 16 (by decide) (by decide), c 17 (by decide) (by decide), c 18 (by decide) (by decide), c 19 (by decide) (by decide)]
    exact h4
  · intro q hq
    rw [sm.there, sm.spare, c 4 (by decide) (by decide), c 16 (by decide) (by decide)]
    exact h5 q hq
/-- class and model between calls, as far as SUNDAYS go -/
def Rq (S T : Nat → Nat → Int32) (s n pp r bb : Nat) : Prop := RI S s n pp r bb ∧ SH S T s n pp r ∧ LV S T 17 pp ∧ MI T n pp r bb ∧ PO T pp
theorem begin_LV (h8 : pp ≤ 8) (lv : LV S T 17 pp) : LV (wkBegin S (S 0 9) n pp) T 58 pp := by
  obtain ⟨⟨e1, e2, e3⟩, e4⟩ := lv
  refine ⟨?_, fun q hq => ?_⟩
  · rw [wkBegin, wkSettles_off (by omega), stCp, e1, e2, e3]
    simp (disch := decide) only [up2_same, up2_col, up2_row, and_self]
  · obtain ⟨a1, a2, a3, a4⟩ := e4 q hq
    rw [wkBegin, wkSettles_off (by omega), wkSettles_off (by omega), wkSettles_off (by omega), wkSettles_off (by omega), stCp, st4, a1, a2, a3, a4]
    simp (disch := decide) only [up2_row, upR_row, upR_same]
    rw [cpy_at0 (by omega), cpy_at0 (by omega), cpy_at0 (by omega), cpy_at0 (by omega)]
    exact ⟨rfl, rfl, rfl, rfl⟩
theorem begin_WR (hs : s = 4 ∨ s = 44) (h : Rq S T s n pp r bb) : WR (wkBegin S (S 0 9) n pp) T s n pp r bb := by
  obtain ⟨ri, sh, lv, mi, po⟩ := h
  have h8 : pp ≤ 8 := mi.2.2.2.2.1
  have hsh : shC (S 0 9) = s := ri.1
  have l2 := begin_LV (n := n) h8 lv
  have sh2 : SH (wkBegin S (S 0 9) n pp) T s n pp r := sh.off (fun k _ _ _ => wkBegin_off (by omega)) (fun _ _ _ => rfl)
  refine ⟨wkBegin_WI hs ri, sh2, l2.1, l2.2, fun q hq => ?_⟩
  obtain ⟨t1, t2⟩ := there_eq sh2 mi.2.1 l2 hq
  have off : ∀ k, k < 63 → wkBegin S (S 0 9) n pp k = stCp (up2 (up2 S 57 6 (S 0 9)) 57 7 0) 58 17 k := fun k hk => by rw [wkBegin, wkSettles_off (Or.inl hk)]
  obtain ⟨c1, c2⟩ := cThere_row (s := s) (n := n) (k := 58) (q := q) (S := stCp (up2 (up2 S 57 6 (S 0 9)) 57 7 0) 58 17) (S' := wkBegin S (S 0 9) n pp) (fun k _ _ => off k (by omega)) (fun k _ _ => off k (by omega))
  obtain ⟨v1, v2, v3, v4⟩ := (settles_v (n := n) hs pp 0 (stCp (up2 (up2 S 57 6 (S 0 9)) 57 7 0) 58 17) q).2 (by omega) (by omega)
  rw [← c1, t1] at v1
  rw [← off (s + 1) (by omega), worth_eq sh2, ← off 59 (by omega), ← (l2.2 q hq).1] at v2
  rw [← off (s + 1) (by omega), worth_eq sh2, ← c1, t1] at v3
  rw [← off (s + 1) (by omega), worth_eq sh2, ← c2, t2] at v4
  rw [show wkBegin S (S 0 9) n pp = wkSettles s n pp 0 (stCp (up2 (up2 S 57 6 (S 0 9)) 57 7 0) 58 17) by rw [wkBegin, hsh]]
  exact ⟨v1, v2, v3, v4⟩
theorem mP_off {k : Nat} (h : k ≠ 23) : mP T k = T k := upR_row h
/-- where a question begins -/
theorem q_WR (hs : s = 4 ∨ s = 44) (h : Rq S T s n pp r bb) : WR (wkBegin S (S 0 9) n pp) (mP (up2 T 0 2 0)) s n pp r bb ∧ MI (mP (up2 T 0 2 0)) n pp r bb ∧ PO (mP (up2 T 0 2 0)) pp :=
  ⟨(begin_WR hs h).tm (fun k _ _ => by rw [mP_off (by omega), up2_row (by omega)]) (fun j _ _ => by rw [mP_off (by decide), up2_col (by omega)]), mP_MI (h.2.2.2.1.cz (by decide)), h.2.2.2.2.cz.same mP_same⟩
theorem n_WR (hs : s = 4 ∨ s = 44) : ∀ (m : Nat) (S T : Nat → Nat → Int32), WR S T s n pp r bb → MI T n pp r bb → PO T pp → WR (wkN s r pp bb m S) (mSunN n r pp bb m T) s n pp r bb := by
  intro m
  induction m with
  | zero => intro S T w _ _; exact w
  | succ m ih => intro S T w ci po; rw [wkN, mSunN]; exact ih _ _ (sun_WR hs w ci po).1 (mSun_MI ci) po.sun
theorem fst_eq {q : Nat} (hs : s = 4 ∨ s = 44) : ∀ (m k : Nat) (S T : Nat → Nat → Int32), WR S T s n pp r bb → MI T n pp r bb → PO T pp → (wkFst s r pp bb q m k S).1 = (mFst (mSun n r pp bb) q m k T).1 := by
  intro m
  induction m with
  | zero => intro k S T _ _ _; rfl
  | succ m ih =>
    intro k S T w ci po
    have w1 := (sun_WR hs w ci po).1
    rw [wkFst, mFst, w1.2.2.1.2.1]
    by_cases e : hasB (wkStep S s r pp bb 58 7) (nI q) = true
    · rw [if_pos e, if_pos e]
    · rw [if_neg e, if_neg e]
      exact ih (k + 1) _ _ w1 (mSun_MI ci) po.sun
theorem cnt_eq {q : Nat} {g g' : (Nat → Nat → Int32) → Int32} (hs : s = 4 ∨ s = 44) (hg : ∀ S T, WR S T s n pp r bb → S 57 7 = T 0 40 → g S = g' T) : ∀ (m : Nat) (x : Int32) (S T : Nat → Nat → Int32), WR S T s n pp r bb → MI T n pp r bb → PO T pp → wkCnt s r pp bb g q m x S = mCnt (mSun n r pp bb) g' q m x T := by
  intro m
  induction m with
  | zero => intro x S T _ _ _; rfl
  | succ m ih =>
    intro x S T w ci po
    obtain ⟨w1, w2⟩ := sun_WR hs w ci po
    rw [wkCnt, mCnt, hg _ _ w1 w2, ih _ _ _ w1 (mSun_MI ci) po.sun]
    congr 1
    cases hasB (g' (mSun n r pp bb T)) (nI q) with
    | true => rfl
    | false => exact (Int32.add_zero x).symm
theorem bc_neg : ∀ c, c < 256 → (-1 : Int32) < bcI (nI c) := by decide +kernel
theorem ful_eq (hs : s = 4 ∨ s = 44) : ∀ (m k : Nat) (x y : Int32) (S T : Nat → Nat → Int32), WR S T s n pp r bb → MI T n pp r bb → PO T pp → wkFul s r pp bb m k x y S = mFul (mSun n r pp bb) m k x y T := by
  intro m
  induction m with
  | zero => intro k x y S T _ _ _; rfl
  | succ m ih =>
    intro k x y S T w ci po
    have w1 := (sun_WR hs w ci po).1
    rw [wkFul, mFul, w1.2.2.1.2.1, ih _ _ _ _ _ w1 (mSun_MI ci) po.sun, ih _ _ _ _ _ w1 (mSun_MI ci) po.sun]
theorem ful_eq0 (hs : s = 4 ∨ s = 44) {m k : Nat} {x x' : Int32} (hm : 1 ≤ m) (w : WR S T s n pp r bb) (ci : MI T n pp r bb) (po : PO T pp) : wkFul s r pp bb m k x (-1) S = mFul (mSun n r pp bb) m k x' (-1) T := by
  obtain ⟨m', rfl⟩ : ∃ m', m = m' + 1 := ⟨m - 1, by omega⟩
  have w1 := (sun_WR hs w ci po).1
  obtain ⟨c, hc, e⟩ := mSun_33 (S := T) (n := n) (r := r) (pp := pp) (bb := bb) ci.2.2.2.2.1
  rw [wkFul, mFul, ← w1.2.2.1.2.1, e, if_pos (bc_neg c hc), if_pos (bc_neg c hc)]
  exact ful_eq hs _ _ _ _ _ _ w1 (mSun_MI ci) po.sun
/-- those who cross are of those who want to -/
theorem mSun_sub (h8 : pp ≤ 8) : lowB (mSun n r pp bb T 0 40) pp ∧ subB (mSun n r pp bb T 0 33) (mSun n r pp bb T 0 40) ∧ mSun n r pp bb T 0 33 = goM (fun x => mlF (mSun1 (mWho n r pp 0 0 T) 18) x pp 0 (-1)) (mSun n r pp bb T 0 40) bb 0 := by
  have hw : lowB (mWho n r pp 0 0 T).1 pp := by
    have := mWho_low (n := n) (r := r) pp 0 0 T (by omega) (lowB_0 0)
    rwa [Nat.zero_add] at this
  have e40 : mSun n r pp bb T 0 40 = (mWho n r pp 0 0 T).1 := by
    unfold mSun mSun2
    rw [up2_col (by decide), up2_col (by decide), mPers_off (by decide) (by decide), mSun1, up2_same]
  have e33 : mSun n r pp bb T 0 33 = goM (fun x => mlF (mSun1 (mWho n r pp 0 0 T) 18) x pp 0 (-1)) (mWho n r pp 0 0 T).1 bb 0 := by
    unfold mSun mSun2
    rw [up2_col (by decide), up2_same]
    unfold mGo
    rw [show mSun1 (mWho n r pp 0 0 T) 0 40 = (mWho n r pp 0 0 T).1 by rw [mSun1, up2_same]]
  rw [e40, e33]
  exact ⟨hw, goM_sub (by omega) hw bb 0 (fun j _ q => by rw [b_0] at q; cases q), rfl⟩
theorem left_0 {g w : Int32} (h : subB g w) : w &&& (g ^^^ -1) = 0 ↔ w = g := by
  constructor
  · intro e
    refine b_ext (fun i hi => ?_)
    have := congrArg (fun z => bt z i) e
    simp only [b_and, b_not _ hi, b_0] at this
    cases hg : bt g i with
    | true => exact h i hi hg
    | false => rw [hg] at this; simpa using this
  · intro e
    refine b_ext (fun i hi => ?_)
    rw [b_and, b_not _ hi, b_0, e]
    cases bt g i <;> rfl
theorem som_eq (hs : s = 4 ∨ s = 44) : ∀ (m : Nat) (S T : Nat → Nat → Int32), WR S T s n pp r bb → MI T n pp r bb → PO T pp → (wkSom s r pp bb m S).1 = !(mSom (mSun n r pp bb) m T).1 := by
  intro m
  induction m with
  | zero => intro S T _ _ _; rfl
  | succ m ih =>
    intro S T w ci po
    obtain ⟨w1, w2⟩ := sun_WR hs w ci po
    have lf := left_0 (mSun_sub (n := n) (r := r) (bb := bb) (T := T) ci.2.2.2.2.1).2.1
    rw [wkSom, mSom, w2, ← w1.2.2.1.2.1]
    by_cases e : mSun n r pp bb T 0 40 = mSun n r pp bb T 0 33
    · rw [if_pos (lf.mpr e), if_pos e]
      exact ih _ _ w1 (mSun_MI ci) po.sun
    · rw [if_neg (fun z => e (lf.mp z)), if_neg e]
      rfl
theorem bc_rem : ∀ l, l < 256 → ∀ j, j < 8 → bt (nI l) j = true → (bcI (nI l &&& ((1 : Int32) <<< (nI j &&& 31) ^^^ -1))).toNatClampNeg + 1 = (bcI (nI l)).toNatClampNeg := by decide +kernel
theorem bc_8 : ∀ l, l < 256 → (bcI (nI l)).toNatClampNeg ≤ 8 ∧ ((bcI (nI l)).toNatClampNeg = 0 → nI l = 0) := by decide +kernel
/-- a bridge that bears so many leaves nobody behind -/
theorem go_all {lg : Nat → Int32} {w : Int32} (h8 : pp ≤ 8) (hw : lowB w pp) : ∀ (m : Nat) (g : Int32), subB g w → (bcI (w &&& (g ^^^ -1))).toNatClampNeg ≤ m → goM (fun x => mlF lg x pp 0 (-1)) w m g = w := by
  intro m
  induction m with
  | zero =>
    intro g h hm
    rw [goM]
    obtain ⟨c, hc, e⟩ := lowB_in hw
    obtain ⟨y, hy, e2⟩ := and_in (a := c) (g ^^^ -1)
    have h256 : 2 ^ pp ≤ 2 ^ 8 := Nat.pow_le_pow_right (by decide) h8
    refine ((left_0 h).mp ?_).symm
    rw [e, e2] at hm ⊢
    exact (bc_8 y (by omega)).2 (by omega)
  | succ m ih =>
    intro g h hm
    rw [goM]
    by_cases e : g = w
    · rw [if_pos e, e]
    · have sb := goM_sub (lg := lg) (show pp ≤ 31 by omega) hw 1 g h
      rw [goM, if_neg e, goM] at sb
      rw [if_neg e]
      refine ih _ sb ?_
      obtain ⟨c, hc, e1⟩ := lowB_in hw
      obtain ⟨y, hy, e2⟩ := and_in (a := c) (g ^^^ -1)
      have h256 : 2 ^ pp ≤ 2 ^ 8 := Nat.pow_le_pow_right (by decide) h8
      rw [← e1] at e2
      rcases mlF_has lg (w &&& (g ^^^ -1)) pp 0 (-1) (by omega) with ⟨-, z⟩ | ⟨j, -, h2, h3, h4⟩
      · exfalso
        refine e ((left_0 h).mp (b_ext (fun i hi => ?_))).symm
        rw [b_0]
        by_cases hp : i < pp
        · have := z i (by omega) (by omega) rfl
          rwa [hasB_bt hi] at this
        · rw [b_and, hw i (by omega) hi]; rfl
      · rw [hasB_bt (by omega)] at h4
        have eq : w &&& ((g ||| 1 <<< (mlF lg (w &&& (g ^^^ -1)) pp 0 (-1) &&& 31)) ^^^ -1) = (w &&& (g ^^^ -1)) &&& ((1 : Int32) <<< (nI j &&& 31) ^^^ -1) := by
          rw [h3]
          refine b_ext (fun i hi => ?_)
          rw [b_and, b_and, b_not _ hi, b_not _ hi, b_and, b_not _ hi, b_or]
          cases bt w i <;> cases bt g i <;> cases bt ((1 : Int32) <<< (nI j &&& 31)) i <;> rfl
        rw [eq]
        rw [e2] at h4 hm ⊢
        have := bc_rem y (by omega) j (by omega) h4
        omega
theorem som_8 (h8 : pp ≤ 8) : ∀ (m : Nat) (T : Nat → Nat → Int32), (mSom (mSun n r pp 8) m T).1 = true := by
  intro m
  induction m with
  | zero => intro T; rfl
  | succ m ih =>
    intro T
    obtain ⟨a1, a2, a3⟩ := mSun_sub (n := n) (r := r) (bb := 8) (T := T) h8
    have e : mSun n r pp 8 T 0 40 = mSun n r pp 8 T 0 33 := by
      rw [a3]
      refine (go_all h8 a1 8 0 (fun j _ q => by rw [b_0] at q; cases q) ?_).symm
      obtain ⟨c, hc, e⟩ := lowB_in a1
      obtain ⟨y, hy, e2⟩ := and_in (a := c) (0 ^^^ -1)
      have h256 : 2 ^ pp ≤ 2 ^ 8 := Nat.pow_le_pow_right (by decide) h8
      rw [e, e2]
      exact (bc_8 y (by omega)).1
    rw [mSom, if_pos e]
    exact ih _
theorem LV_kpt (h8 : pp ≤ 8) (lv : LV S T 17 pp) (k : Kpt T X) : LV S (mBk X) 17 pp := by
  obtain ⟨⟨e1, e2, e3⟩, e4⟩ := lv
  refine ⟨?_, fun q hq => ?_⟩
  · unfold mBk
    rw [unR_b.1, unR_b.2.1, unR_b.2.2.1, k.2, pkR_b.1, pkR_b.2.1, pkR_b.2.2.1]
    exact ⟨e1, e2, e3⟩
  · have h : q < 8 := by omega
    unfold mBk
    rw [(unR_in h).1, (unR_in h).2.1, (unR_in h).2.2.1, (unR_in h).2.2.2, k.2, (pkR_in h).1, (pkR_in h).2.1, (pkR_in h).2.2.1, (pkR_in h).2.2.2]
    exact e4 q hq
theorem LV.sm {S' : Nat → Nat → Int32} (hs : s = 4 ∨ s = 44) (lv : LV S T 17 pp) (w : Wsm s S S') : LV S' T 17 pp := by
  unfold LV at *
  rw [w 17 (by omega) (by omega), w (17 + 1) (by omega) (by omega), w (17 + 2) (by omega) (by omega), w (17 + 3) (by omega) (by omega), w (17 + 4) (by omega) (by omega)]
  exact lv
theorem SH.sm {S' : Nat → Nat → Int32} (hs : s = 4 ∨ s = 44) (h : SH S T s n pp r) (w : Wsm s S S') : SH S' T s n pp r := h.off (fun k _ _ h3 => w k h3 (by omega)) (fun _ _ _ => rfl)
/-- behind a question nothing has changed -/
theorem Rq.sm {S' : Nat → Nat → Int32} (hs : s = 4 ∨ s = 44) (h : Rq S T s n pp r bb) (w : Wsm s S S') : Rq S' T s n pp r bb := ⟨h.1.sm hs w, h.2.1.sm hs w, h.2.2.1.sm hs w, h.2.2.2⟩
theorem Rq.kpt (h : Rq S T s n pp r bb) (k : Kpt T X) : Rq S (mBk X) s n pp r bb := by
  obtain ⟨a, c, l, mi, po⟩ := h
  exact ⟨a, c.off (fun _ _ _ _ => rfl) (fun j h1 h2 => k.bk.1 j h1 (by omega)), LV_kpt mi.2.2.2.2.1 l k, k.MI mi, k.PO mi.2.2.2.2.1 po⟩
theorem WR.bears {v : Nat} (hs : s = 4 ∨ s = 44) (w : WR S T s n pp r bb) : WR (up2 S 58 5 (nI v)) (up2 T 0 35 (nI v)) s n pp r v := by
  have w1 := w.tm (T' := up2 T 0 35 (nI v)) (fun k _ _ => up2_row (by omega)) (fun j _ _ => up2_col (by omega))
  obtain ⟨⟨h1, h2, h3, h4⟩, sh, h5, h6, h7⟩ := w1
  refine ⟨⟨?_, ?_, ?_, ?_⟩, sh.off (fun k _ _ _ => up2_row (by omega)) (fun _ _ _ => rfl), ?_, ?_, ?_⟩
  · rw [up2_row (by decide)]; exact h1
  · rw [up2_row (by omega)]; exact h2
  · rw [up2_row (by omega)]; exact h3
  · rw [up2_same]
  · rw [up2_col (show 6 ≠ 5 by decide), up2_col (show 7 ≠ 5 by decide), up2_col (show 4 ≠ 5 by decide)]; exact h5
  · rw [up2_row (show 59 ≠ 58 by decide), up2_row (show 60 ≠ 58 by decide), up2_row (show 61 ≠ 58 by decide), up2_row (show 62 ≠ 58 by decide)]; exact h6
  · rw [up2_row (show 63 ≠ 58 by decide), up2_row (show 64 ≠ 58 by decide), up2_row (show 65 ≠ 58 by decide), up2_row (show 66 ≠ 58 by decide)]; exact h7
theorem MI.bears {v : Nat} (ci : MI T n pp r bb) (hv : v ≤ 8) : MI (up2 T 0 35 (nI v)) n pp r v := by
  obtain ⟨hn, h12, hg, hp, h8, hr, h7, hw, hbb, hb8⟩ := ci
  simp (disch := decide) only [MI, up2_row, up2_same]
  exact ⟨hn, h12, hg, hp, h8, hr, h7, hw, trivial, hv⟩
/-- how many the bridge must bear -/
theorem bear_eq {k : Nat} (hs : s = 4 ∨ s = 44) : ∀ (m v : Nat) (S X : Nat → Nat → Int32), v + m = 8 → Rq S T s n pp r bb → Kpt T X → Rq S X s n pp r bb → (wkBear s r pp n k m v S).1 = (mBear n r pp k (m + 1) v X).1 := by
  intro m
  induction m with
  | zero =>
    intro v S X hv h kp hx
    have hv8 : v = 8 := by omega
    subst hv8
    rw [mBear, if_pos (som_8 hx.2.2.2.1.2.2.2.2.1 _ _)]
    rfl
  | succ m ih =>
    intro v S X hv h kp hx
    have w0 := (begin_WR hs hx).bears (v := v) hs
    have mi := hx.2.2.2.1.bears (v := v) (by omega)
    have se := som_eq hs k _ _ w0 mi hx.2.2.2.2.cz
    have w1 : Wsm s S (wkSom s r pp v k (up2 (wkBegin S (S 0 9) n pp) 58 5 (nI v))).2 := (wkBegin_sm.trans (up2_sm (by decide) (by decide))).trans (wkSom_sm _ _)
    have kp2 : Kpt T (mSom (mSun n r pp v) k (up2 X 0 35 (nI v))).2 := mSom_Kpt (X := X) k _ (kp.step (fun j _ _ => up2_row (by omega)) (up2_row (by decide)))
    rw [wkBear, mBear, se]
    cases e : (mSom (mSun n r pp v) k (up2 X 0 35 (nI v))).1 with
    | true => rfl
    | false =>
      rw [if_pos (show (!false) = true from rfl), if_neg (show ¬ false = true by decide)]
      exact ih (v + 1) _ _ (by omega) (h.sm hs w1) kp2.bk ((h.sm hs w1).kpt kp2)
end R3
