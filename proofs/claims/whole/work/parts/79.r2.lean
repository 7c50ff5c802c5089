/-! ===== class and model: a SUNDAY is the same ===== -/
section R2
variable {S T : Nat → Nat → Int32} {s n pp r bb : Nat}
theorem i32_7 {x : Int32} (h1 : ¬ x ≤ 9999) (h2 : x ≤ 10006) : ∃ k, k < 7 ∧ x = nI (10000 + k) := by
  have a1 := Int32.lt_iff_toInt_lt.mp (Int32.not_le.mp h1)
  have a2 := Int32.le_iff_toInt_le.mp h2
  have q1 : (9999 : Int32).toInt = 9999 := by decide
  have q2 : (10006 : Int32).toInt = 10006 := by decide
  have e : x = Int32.ofInt x.toInt := (Int32.ofInt_toInt x).symm
  rw [q1] at a1
  rw [q2] at a2
  generalize x.toInt = z at a1 a2 e
  rcases (show z = 10000 ∨ z = 10001 ∨ z = 10002 ∨ z = 10003 ∨ z = 10004 ∨ z = 10005 ∨ z = 10006 by omega) with q | q | q | q | q | q | q <;> subst q <;> subst e
  · exact ⟨0, by decide, by decide⟩
  · exact ⟨1, by decide, by decide⟩
  · exact ⟨2, by decide, by decide⟩
  · exact ⟨3, by decide, by decide⟩
  · exact ⟨4, by decide, by decide⟩
  · exact ⟨5, by decide, by decide⟩
  · exact ⟨6, by decide, by decide⟩
theorem cm_bin {x : Int32} (h0 : ¬ x < 0) (h1 : ¬ x ≤ 10006) (h2 : ¬ x = 10007) : cmS x ≤ -20 ∧ ¬ cmS x = -28 ∧ ∀ a c, mApp (cmS x) a c = appl x a c := by
  unfold cmS
  rw [if_neg h0, if_neg (fun q => h1 (Int32.le_trans q (by decide))), if_neg h1, if_neg h2]
  by_cases e1 : x = 10008
  · subst e1; exact ⟨by decide, by decide, fun a c => by simp (decide := true) only [mApp, appl, if_true, if_false]⟩
  by_cases e2 : x = 10009
  · subst e2; exact ⟨by decide, by decide, fun a c => by simp (decide := true) only [mApp, appl, if_true, if_false]⟩
  by_cases e3 : x = 10010
  · subst e3; exact ⟨by decide, by decide, fun a c => by simp (decide := true) only [mApp, appl, if_true, if_false]⟩
  by_cases e4 : x = 10011
  · subst e4; exact ⟨by decide, by decide, fun a c => by simp (decide := true) only [mApp, appl, if_true, if_false]⟩
  by_cases e5 : x = 10012
  · subst e5; exact ⟨by decide, by decide, fun a c => by simp (decide := true) only [mApp, appl, if_true, if_false]⟩
  by_cases e6 : x = 10013
  · subst e6; exact ⟨by decide, by decide, fun a c => by simp (decide := true) only [mApp, appl, if_true, if_false]⟩
  by_cases e7 : x = 10014
  · subst e7; exact ⟨by decide, by decide, fun a c => by simp (decide := true) only [mApp, appl, if_true, if_false]⟩
  rw [if_neg e1, if_neg e2, if_neg e3, if_neg e4, if_neg e5, if_neg e6, if_neg e7]
  refine ⟨by decide, by decide, fun a c => ?_⟩
  unfold appl
  rw [if_neg e1, if_neg e2, if_neg e3, if_neg e4, if_neg e5, if_neg e6, if_neg e7]
  simp (decide := true) only [mApp, if_true, if_false]
theorem cm_v2 : ∀ k, k < 7 → cmS (nI (10000 + k)) < 0 ∧ (-1 - cmS (nI (10000 + k))).toNatClampNeg = k ∧ (nI (10000 + k) - 10000).toNatClampNeg = k := by decide +kernel
theorem upd_eq {f g : Nat → Int32} {k p : Nat} {x y : Int32} (h : ∀ j, j < k → f j = g j) (e : x = y) : ∀ j, j < k ∨ j = p → (j = p ∨ j < k) → upd f p x j = upd g p y j := by
  intro j _ hj
  by_cases q : j = p
  · rw [q, updS, updS, e]
  · rw [updN q, updN q]; exact h j (hj.resolve_left q)
/-- an EXPR has the same value on both sides -/
theorem rk_eq {cd cm vl vl' : Nat → Int32} (hv : ∀ j, j < 7 → vl j = vl' j) : ∀ (m i k : Nat) (f g : Nat → Int32), (∀ j, i ≤ j → j < i + m → cm j = cmS (cd j)) → wfC cm m i k → (∀ j, j < k → f j = g j) → (rkF cd vl m i k f).1 = rkM cm vl' m i k g 0 := by
  intro m
  induction m with
  | zero =>
    intro i k f g _ hw hf
    have hk : k = 1 := hw
    subst hk
    show (if 1 = 1 then f 0 else 0) = g 0
    rw [if_pos rfl]
    exact hf 0 (by decide)
  | succ m ih =>
    intro i k f g hc hw hf
    have hi := hc i (by omega) (by omega)
    have hc' : ∀ j, i + 1 ≤ j → j < i + 1 + m → cm j = cmS (cd j) := fun j a c => hc j (by omega) (by omega)
    rw [wfC, hi] at hw
    rw [rkF, rkM, hi]
    by_cases h0 : cd i < 0
    · exfalso
      have e : cmS (cd i) = -10 := by unfold cmS; rw [if_pos h0]
      rw [e, if_neg (by decide)] at hw
      exact absurd hw.1 (by decide)
    by_cases h1 : cd i ≤ 10006
    · have key : ¬ cmS (cd i) ≤ -20 ∧ (if cd i ≤ 9999 then cd i else vl (cd i - 10000).toNatClampNeg) = (if cmS (cd i) < 0 then vl' (-1 - cmS (cd i)).toNatClampNeg else cmS (cd i)) := by
        by_cases h2 : cd i ≤ 9999
        · have e : cmS (cd i) = cd i := by unfold cmS; rw [if_neg h0, if_pos h2]
          rw [e, if_pos h2, if_neg h0]
          exact ⟨fun q => h0 (Int32.lt_of_le_of_lt q (by decide)), rfl⟩
        · obtain ⟨k', hk', e⟩ := i32_7 h2 h1
          obtain ⟨v1, v2, v3⟩ := cm_v2 k' hk'
          obtain ⟨-, u1, -⟩ := cm_v k' hk'
          rw [if_neg h2, e, if_pos v1, v2, v3]
          exact ⟨u1, hv k' hk'⟩
      rw [if_neg key.1] at hw
      obtain ⟨-, w2, w3⟩ := hw
      rw [if_pos h1, if_neg (show ¬ 64 ≤ k by omega), if_neg key.1, ← key.2]
      exact ih (i + 1) (k + 1) _ _ hc' w3 (fun j hj => upd_eq hf rfl j (by omega) (by omega))
    by_cases h2 : cd i = 10007
    · have e : cmS (cd i) = -28 := by rw [h2]; decide
      rw [e, if_pos (by decide), if_pos rfl] at hw
      rw [if_neg h1, if_pos h2, if_neg (show ¬ k < 1 by omega), e, if_pos (show (-28 : Int32) ≤ -20 by decide), if_pos (show (-28 : Int32) = -28 from rfl), hf (k - 1) (by omega)]
      exact ih (i + 1) k _ _ hc' hw.2 (fun j hj => upd_eq hf rfl j (by omega) (by omega))
    · obtain ⟨b1, b2, b3⟩ := cm_bin h0 h1 h2
      rw [if_pos b1, if_neg b2] at hw
      rw [if_neg h1, if_neg h2, if_neg (show ¬ k < 2 by omega), if_pos b1, if_neg b2, b3, hf (k - 1) (by omega), hf (k - 2) (by omega)]
      exact ih (i + 1) (k - 1) _ _ hc' hw.2 (fun j hj => upd_eq (k := k) hf rfl j (by omega) (by omega))
/-- the shores are the same -/
def SH (S T : Nat → Nat → Int32) (s n pp r : Nat) : Prop := RI1 S T s n ∧ (∀ i, i < 10 → S (s + 1) i = T 4 i) ∧ (∀ q, q < pp → S (s + 9) q = T 7 q) ∧ ∀ i, i < r → T 13 i = cmS (S (s + 7) i)
/-- a walk of the class beside the model -/
def WR (S T : Nat → Nat → Int32) (s n pp r bb : Nat) : Prop := WI S s r pp bb ∧ SH S T s n pp r ∧ (T 0 32 = S 58 6 ∧ T 0 33 = S 58 7 ∧ T 0 34 = S 58 4) ∧ (∀ q, q < pp → T 16 q = S 59 q ∧ T 17 q = S 60 q ∧ T 18 q = S 61 q ∧ T 19 q = S 62 q) ∧
  ∀ q, q < pp → S 63 q = mThere T n q ∧ S 64 q = sumB (T 4) (T 16 q) 10 0 0 ∧ S 65 q = sumB (T 4) (mThere T n q) 10 0 0 ∧ S 66 q = sumB (T 4) (mSpare T n q) 10 0 0
theorem SH.off {S' T' : Nat → Nat → Int32} (h : SH S T s n pp r) (a : ∀ k, s ≤ k → k ≤ s + 9 → k ≠ s + 8 → S' k = S k) (c : ∀ k, 3 ≤ k → k ≤ 13 → T' k = T k) : SH S' T' s n pp r := by
  unfold SH RI1 at *
  simp only [a (s + 1) (by omega) (by omega) (by omega), a (s + 2) (by omega) (by omega) (by omega), a (s + 3) (by omega) (by omega) (by omega), a (s + 4) (by omega) (by omega) (by omega), a (s + 5) (by omega) (by omega) (by omega), a (s + 7) (by omega) (by omega) (by omega), a (s + 9) (by omega) (by omega) (by omega), c 4 (by omega) (by omega), c 7 (by omega) (by omega), c 9 (by omega) (by omega), c 10 (by omega) (by omega), c 11 (by omega) (by omega), c 12 (by omega) (by omega), c 13 (by omega) (by omega)]
  exact h
theorem WR.off {S' T' : Nat → Nat → Int32} (hs : s = 4 ∨ s = 44) (h : WR S T s n pp r bb) (a : ∀ k, k ≠ 67 → k ≠ s + 8 → S' k = S k) (c : ∀ k, k ≠ 21 → k ≠ 22 → T' k = T k) : WR S' T' s n pp r bb := by
  obtain ⟨h1, h2, h3, h4, h5⟩ := h
  have sm : mSame T T' := ⟨fun k _ _ => c k (by omega) (by omega), by rw [c 0 (by decide) (by decide)]⟩
  refine ⟨?_, h2.off (fun k _ _ _ => a k (by omega) (by omega)) (fun k _ _ => c k (by omega) (by omega)), ?_, ?_, ?_⟩
  · unfold WI at *
    rw [a 57 (by omega) (by omega), a s (by omega) (by omega), a (s + 6) (by omega) (by omega), a 58 (by omega) (by omega)]
    exact h1
  · rw [c 0 (by decide) (by decide), a 58 (by omega) (by omega)]
    exact h3
  · rw [c 16 (by decide) (by decide), c 17 (by decide) (by decide), c 18 (by decide) (by decide), c 19 (by decide) (by decide), a 59 (by omega) (by omega), a 60 (by omega) (by omega), a 61 (by omega) (by omega), a 62 (by omega) (by omega)]
    exact h4
  · intro q hq
    rw [sm.there, sm.spare, c 4 (by decide) (by decide), c 16 (by decide) (by decide), a 63 (by omega) (by omega), a 64 (by omega) (by omega), a 65 (by omega) (by omega), a 66 (by omega) (by omega)]
    exact h5 q hq
theorem wkVals_v {q : Nat} : wkVals S q 67 0 = S 61 q ∧ wkVals S q 67 1 = S 64 q ∧ wkVals S q 67 2 = S 65 q ∧ wkVals S q 67 3 = S 66 q ∧ wkVals S q 67 4 = S 58 6 ∧ wkVals S q 67 5 = S 62 q ∧ wkVals S q 67 6 = b2i (hasB (S 58 7) (nI q)) := by
  simp (disch := decide) only [wkVals, up2_same, up2_col, up2_row, and_self]
theorem mVals_v {q : Nat} : mVals T n q 21 0 = T 18 q ∧ mVals T n q 21 1 = sumB (T 4) (T 16 q) 10 0 0 ∧ mVals T n q 21 2 = sumB (T 4) (mThere T n q) 10 0 0 ∧ mVals T n q 21 3 = sumB (T 4) (mSpare T n q) 10 0 0 ∧ mVals T n q 21 4 = T 0 32 ∧ mVals T n q 21 5 = T 19 q ∧ mVals T n q 21 6 = b2i (hasB (T 0 33) (nI q)) := by
  simp (disch := decide) only [mVals, up2_same, up2_col, up2_row, and_self]
theorem nI_0lt {r : Nat} (h : r < 2 ^ 31) : (0 : Int32) < nI r ↔ 0 < r := by
  constructor
  · intro q
    rcases Nat.eq_zero_or_pos r with e | e
    · subst e; exact absurd q (by decide)
    · exact e
  · intro q
    rcases Int32.lt_or_eq_of_le (nI_pos' h) with e | e
    · exact e
    · have := congrArg Int32.toNatClampNeg e
      rw [nI_clamp h] at this
      have z : (0 : Int32).toNatClampNeg = 0 := by decide
      omega
theorem wants_eq {q : Nat} (w : WR S T s n pp r bb) (ci : MI T n pp r bb) (hq : q < pp) : (wkWants S s r q).1 = (mWants T n r q).1 := by
  obtain ⟨⟨h1, h2, h3, h4⟩, ⟨g1, g2, g3, g4⟩, ⟨k1, k2, k3⟩, h5, h6⟩ := w
  obtain ⟨hn, h12, hg, hp, h8, hr, h7, hw, hbb, hb8⟩ := id ci
  unfold wkWants mWants
  rw [h3]
  obtain ⟨e1, e2, e3, e4⟩ := h5 q hq
  obtain ⟨f1, f2, f3, f4⟩ := h6 q hq
  by_cases e : r = 0
  · rw [if_neg (fun z => absurd ((nI_0lt (by omega)).mp z) (by omega)), if_pos e]
    show decide (10 ≤ S 61 q) = decide (10 ≤ T 18 q)
    rw [e3]
  · rw [if_pos ((nI_0lt (by omega)).mpr (by omega)), if_neg e]
    show decide (0 < _) = decide (0 < _)
    rw [rk_eq (cm := T 13) (vl' := mVals T n q 21) (g := T 22) (fun j hj => ?_) r 0 0 _ (fun j _ hj => g4 j (by omega)) (hw (by omega)) (fun j hj => by omega)]
    obtain ⟨v0, v1, v2, v3, v4, v5, v6⟩ := wkVals_v (S := S) (q := q)
    obtain ⟨u0, u1, u2, u3, u4, u5, u6⟩ := mVals_v (T := T) (n := n) (q := q)
    rcases (show j = 0 ∨ j = 1 ∨ j = 2 ∨ j = 3 ∨ j = 4 ∨ j = 5 ∨ j = 6 by omega) with z | z | z | z | z | z | z <;> subst z
    · rw [v0, u0, e3]
    · rw [v1, u1, f2]
    · rw [v2, u2, f3]
    · rw [v3, u3, f4]
    · rw [v4, u4, k1]
    · rw [v5, u5, e4]
    · rw [v6, u6, k2]
theorem who_eq (hs : s = 4 ∨ s = 44) : ∀ (m q : Nat) (x : Int32) (S T : Nat → Nat → Int32), q + m ≤ pp → WR S T s n pp r bb → MI T n pp r bb → (wkWho s r m q x S).1 = (mWho n r m q x T).1 := by
  intro m
  induction m with
  | zero => intro q x S T _ _ _; rfl
  | succ m ih =>
    intro q x S T hq w ci
    rw [wkWho, mWho, wants_eq w ci (by omega)]
    exact ih (q + 1) _ _ _ (by omega) (w.off hs (fun k a c => wkWants_off a c) (fun k a c => mWants_off a c)) (mWants_MI ci)
theorem mlF_congr {lg lg' : Nat → Int32} {x : Int32} : ∀ (m q : Nat) (z : Int32), q + m < 100 → (∀ j, j < q + m → lg j = lg' j) → (z = -1 ∨ ∃ k, k < q ∧ z = nI k) → mlF lg x m q z = mlF lg' x m q z := by
  intro m
  induction m with
  | zero => intro q z _ _ _; rfl
  | succ m ih =>
    intro q z hq h hz
    have e : (hasB x (nI q) = true ∧ (z = -1 ∨ lg z.toNatClampNeg < lg q)) = (hasB x (nI q) = true ∧ (z = -1 ∨ lg' z.toNatClampNeg < lg' q)) := by
      rcases hz with hz | ⟨k, h1, h2⟩
      · simp only [hz, true_or]
      · rw [h2, nI_clamp (by omega), h k (by omega), h q (by omega)]
    rw [mlF, mlF]
    by_cases c : hasB x (nI q) = true ∧ (z = -1 ∨ lg' z.toNatClampNeg < lg' q)
    · rw [if_pos (e.mpr c), if_pos c]
      exact ih (q + 1) _ (by omega) (fun j hj => h j (by omega)) (Or.inr ⟨q, by omega, rfl⟩)
    · rw [if_neg (fun z => c (e.mp z)), if_neg c]
      exact ih (q + 1) _ (by omega) (fun j hj => h j (by omega)) (hz.elim Or.inl (fun ⟨k, h1, h2⟩ => Or.inr ⟨k, by omega, h2⟩))
theorem go_eq {lg : Nat → Int32} {w : Int32} (hpp : pp ≤ 31) (hw : lowB w pp) : ∀ (m : Nat) (g : Int32), subB g w → w &&& (wgF (fun x => mlF lg x pp 0 (-1)) m (w &&& (g ^^^ -1)) ^^^ -1) = goM (fun x => mlF lg x pp 0 (-1)) w m g := by
  have b0 : ∀ g, subB g w → w &&& ((w &&& (g ^^^ -1)) ^^^ -1) = g := by
    intro g h
    refine b_ext (fun i hi => ?_)
    rw [b_and, b_not _ hi, b_and, b_not _ hi]
    cases hg : bt g i with
    | true => rw [h i hi hg]; rfl
    | false => cases bt w i <;> rfl
  intro m
  induction m with
  | zero => intro g h; exact b0 g h
  | succ m ih =>
    intro g h
    rw [wgF, goM]
    by_cases e : g = w
    · have z : w &&& (g ^^^ -1) = 0 := by
        refine b_ext (fun i hi => ?_)
        rw [b_and, b_not _ hi, b_0, e]
        cases bt w i <;> rfl
      rw [if_pos z, if_pos e]
      exact b0 g h
    · have z : ¬ w &&& (g ^^^ -1) = 0 := by
        intro q
        have := b0 g h
        rw [q] at this
        refine e (this.symm.trans (b_ext (fun i hi => ?_)))
        rw [b_and, b_not _ hi, b_0]
        cases bt w i <;> rfl
      have sb := goM_sub (lg := lg) hpp hw 1 g h
      rw [goM, if_neg e, goM] at sb
      rw [if_neg z, if_neg e, ← ih _ sb]
      congr 3
      refine b_ext (fun i hi => ?_)
      rw [b_and, b_and, b_not _ hi, b_not _ hi, b_and, b_not _ hi, b_or]
      cases bt w i <;> cases bt g i <;> cases bt ((1 : Int32) <<< (mlF lg (w &&& (g ^^^ -1)) pp 0 (-1) &&& 31)) i <;> rfl
theorem mxI_c (x y : Int32) : mxI x y = mxI y x := by
  unfold mxI
  by_cases h1 : x < y
  · rw [if_pos h1, if_neg (fun q => Int32.lt_irrefl (Int32.lt_trans h1 q))]
  · by_cases h2 : y < x
    · rw [if_neg h1, if_pos h2]
    · rw [if_neg h1, if_neg h2]
      exact Int32.le_antisymm (Int32.not_lt.mp h2) (Int32.not_lt.mp h1)
theorem mnI_c (x y : Int32) : mnI x y = mnI y x := by
  unfold mnI
  by_cases h1 : x < y
  · rw [if_neg (fun q => Int32.lt_irrefl (Int32.lt_trans h1 q)), if_pos h1]
  · by_cases h2 : y < x
    · rw [if_pos h2, if_neg h1]
    · rw [if_neg h1, if_neg h2]
      exact Int32.le_antisymm (Int32.not_lt.mp h2) (Int32.not_lt.mp h1)
theorem bc_0 : ∀ c, c < 1024 → (bcI (nI c) ≤ 0 ↔ nI c = 0) := by decide +kernel
theorem pers_eq {g : Int32} (hg : S 58 7 = g) (hv : ∀ q, q < pp → S 63 q = mThere T n q ∧ S 64 q = sumB (T 4) (T 16 q) 10 0 0 ∧ S 65 q = sumB (T 4) (mThere T n q) 10 0 0 ∧ T 16 q = S 59 q) (hin : ∀ q, q < pp → ∃ c, c < 1024 ∧ mThere T n q = nI c) : ∀ (m q : Nat) (S' U : Nat → Nat → Int32), q + m ≤ pp → (∀ k, k ≠ 61 → k ≠ 62 → S' k = S k) → (∀ j, j < pp → U 18 j = S' 61 j ∧ U 19 j = S' 62 j) → ∀ j, j < pp → mPers T n g m q U 18 j = wkPers m q S' 61 j ∧ mPers T n g m q U 19 j = wkPers m q S' 62 j := by
  intro m
  induction m with
  | zero => intro q S' U _ _ h; exact h
  | succ m ih =>
    intro q S' U hq ha hU
    rw [mPers, wkPers]
    refine ih (q + 1) _ _ (by omega) (fun k a c => ?_) (fun j hj => ?_)
    · split
      · rw [wkCross_off a c]; exact ha k a c
      · rw [wkStay_off a]; exact ha k a c
    · obtain ⟨v1, v2, v3, v4⟩ := hv q (by omega)
      obtain ⟨c, hc, ec⟩ := hin q (by omega)
      obtain ⟨y, hy, ey⟩ := and_in (a := c) (T 16 q ^^^ -1)
      obtain ⟨u1, u2⟩ := hU q (by omega)
      obtain ⟨w1, w2⟩ := hU j hj
      rw [ha 58 (by decide) (by decide), hg]
      unfold mPer wkCross wkStay
      rw [ha 63 (by decide) (by decide), ha 59 (by decide) (by decide), ha 65 (by decide) (by decide), ha 64 (by decide) (by decide), v1, v2, v3, ← v4, u1, u2]
      by_cases hb : hasB g (nI q) = true
      · rw [if_pos hb, if_pos hb, mxI_c _ (0 : Int32), mxI_c _ (0 : Int32), mnI_c _ (99 : Int32)]
        have e0 := bc_0 y (by omega)
        rw [ec, ey]
        by_cases z : nI y = 0
        · rw [if_pos z, if_pos (e0.mpr z)]
          by_cases e : j = q
          · subst e
            simp (disch := decide) only [up2_same, up2_row, u2, and_self]
          · simp (disch := first | decide | exact e) only [up2_same, up2_row, up2_col, w1, w2, and_self]
        · rw [if_neg z, if_neg (fun k => z (e0.mp k))]
          by_cases e : j = q
          · subst e
            simp (disch := decide) only [up2_same, up2_row, and_self]
          · simp (disch := first | decide | exact e) only [up2_same, up2_row, up2_col, w1, w2, and_self]
      · rw [if_neg hb, if_neg hb, mnI_c _ (99 : Int32)]
        by_cases e : j = q
        · subst e
          simp (disch := decide) only [up2_same, up2_row, u2, and_self]
        · simp (disch := first | decide | exact e) only [up2_same, up2_row, up2_col, w1, w2, and_self]
theorem sun_WR (hs : s = 4 ∨ s = 44) (w : WR S T s n pp r bb) (ci : MI T n pp r bb) (po : PO T pp) : WR (wkStep S s r pp bb) (mSun n r pp bb T) s n pp r bb ∧ wkStep S s r pp bb 57 7 = mSun n r pp bb T 0 40 := by
  have h8 : pp ≤ 8 := ci.2.2.2.2.1
  have ew := who_eq hs pp 0 0 S T (by omega) w ci
  have lw := mWho_low (n := n) (r := r) pp 0 0 T (by omega) (lowB_0 0)
  rw [Nat.zero_add] at lw
  have w1 : WR (wkWho s r pp 0 0 S).2 (mWho n r pp 0 0 T).2 s n pp r bb := w.off hs (fun k a c => wkWho_off a c _ _ _ _) (fun k a c => mWho_off a c _ _ _ _)
  have po1 : PO (mWho n r pp 0 0 T).2 pp := po.same (mWho_same _ _ _)
  have ci1 : MI (mWho n r pp 0 0 T).2 n pp r bb := ci.same (fun k h1 h2 => mWho_off (by omega) (by omega) _ _ _ _) (by rw [mWho_off (by decide) (by decide)])
  clear w po ci
  unfold wkStep wkGo wkWho2 mSun mSun2 mGo mSun1
  generalize wkWho s r pp 0 0 S = W at *
  generalize mWho n r pp 0 0 T = X at *
  obtain ⟨x, S1⟩ := W
  obtain ⟨y, T1⟩ := X
  have ew' : x = y := ew
  subst ew'
  have lw' : lowB x pp := lw
  have w2 : WR S1 T1 s n pp r bb := w1
  have po2 : PO T1 pp := po1
  have ci2 : MI T1 n pp r bb := ci1
  clear ew lw w1 po1 ci1
  show WR (up2 (wkPers pp 0 (up2 (up2 S1 57 7 x) 58 7 (up2 S1 57 7 x 57 7 &&& (wgF (fun z => mlF (up2 S1 57 7 x 61) z pp 0 (-1)) bb (up2 S1 57 7 x 57 7) ^^^ -1)))) 58 6 (wkPers pp 0 (up2 (up2 S1 57 7 x) 58 7 (up2 S1 57 7 x 57 7 &&& (wgF (fun z => mlF (up2 S1 57 7 x 61) z pp 0 (-1)) bb (up2 S1 57 7 x 57 7) ^^^ -1))) 58 6 + 1)) (up2 (up2 (mPers (up2 T1 0 40 x) n (goM (fun z => mlF (up2 T1 0 40 x 18) z pp 0 (-1)) (up2 T1 0 40 x 0 40) bb 0) pp 0 (up2 T1 0 40 x)) 0 33 (goM (fun z => mlF (up2 T1 0 40 x 18) z pp 0 (-1)) (up2 T1 0 40 x 0 40) bb 0)) 0 32 (up2 T1 0 40 x 0 32 + 1)) s n pp r bb ∧
    up2 (wkPers pp 0 (up2 (up2 S1 57 7 x) 58 7 (up2 S1 57 7 x 57 7 &&& (wgF (fun z => mlF (up2 S1 57 7 x 61) z pp 0 (-1)) bb (up2 S1 57 7 x 57 7) ^^^ -1)))) 58 6 (wkPers pp 0 (up2 (up2 S1 57 7 x) 58 7 (up2 S1 57 7 x 57 7 &&& (wgF (fun z => mlF (up2 S1 57 7 x 61) z pp 0 (-1)) bb (up2 S1 57 7 x 57 7) ^^^ -1))) 58 6 + 1) 57 7 = up2 (up2 (mPers (up2 T1 0 40 x) n (goM (fun z => mlF (up2 T1 0 40 x 18) z pp 0 (-1)) (up2 T1 0 40 x 0 40) bb 0) pp 0 (up2 T1 0 40 x)) 0 33 (goM (fun z => mlF (up2 T1 0 40 x 18) z pp 0 (-1)) (up2 T1 0 40 x 0 40) bb 0)) 0 32 (up2 T1 0 40 x 0 32 + 1) 0 40
  obtain ⟨⟨h1, h2, h3, h4⟩, sh, ⟨k1, k2, k3⟩, h5, h6⟩ := w2
  have eF : (fun z => mlF (S1 61) z pp 0 (-1)) = fun z => mlF (T1 18) z pp 0 (-1) := by
    funext z
    exact mlF_congr pp 0 (-1) (by omega) (fun j hj => (h5 j (by omega)).2.2.1.symm) (Or.inl rfl)
  have x0 : x &&& (0 ^^^ -1) = x := by
    refine b_ext (fun i hi => ?_)
    rw [b_and, b_not _ hi, b_0]
    cases bt x i <;> rfl
  have eg := go_eq (lg := T1 18) (show pp ≤ 31 by omega) lw' bb 0 (fun i hi q => by rw [b_0] at q; cases q)
  rw [x0] at eg
  rw [up2_same, up2_same, up2_row (show 61 ≠ 57 by decide), up2_row (show 18 ≠ 0 by decide), up2_col (show 32 ≠ 40 by decide), eF, eg]
  generalize goM (fun z => mlF (T1 18) z pp 0 (-1)) x bb 0 = g at *
  have sm2 : mSame T1 (up2 T1 0 40 x) := mSame.refl.up0 (by decide)
  have po3 : PO (up2 T1 0 40 x) pp := po2.cz
  have pe := pers_eq (S := up2 (up2 S1 57 7 x) 58 7 g) (T := up2 T1 0 40 x) (n := n) (pp := pp) (g := g) up2_same (fun q hq => by
    rw [sm2.there, up2_row (show 4 ≠ 0 by decide), up2_row (show 16 ≠ 0 by decide), up2_row (show 63 ≠ 58 by decide), up2_row (show 63 ≠ 57 by decide), up2_row (show 64 ≠ 58 by decide), up2_row (show 64 ≠ 57 by decide), up2_row (show 65 ≠ 58 by decide), up2_row (show 65 ≠ 57 by decide), up2_row (show 59 ≠ 58 by decide), up2_row (show 59 ≠ 57 by decide)]
    exact ⟨(h6 q hq).1, (h6 q hq).2.1, (h6 q hq).2.2.1, (h5 q hq).1⟩) (fun q hq => mThere_in ci2.2.1 (by rw [up2_row (by decide)]; exact ci2.2.2.1) po3 hq) pp 0 (up2 (up2 S1 57 7 x) 58 7 g) (up2 T1 0 40 x) (by omega) (fun _ _ _ => rfl) (fun j hj => by
      rw [up2_row (show 18 ≠ 0 by decide), up2_row (show 19 ≠ 0 by decide), up2_row (show 61 ≠ 58 by decide), up2_row (show 61 ≠ 57 by decide), up2_row (show 62 ≠ 58 by decide), up2_row (show 62 ≠ 57 by decide)]
      exact ⟨(h5 j hj).2.2.1, (h5 j hj).2.2.2⟩)
  have oS : ∀ k, k ≠ 61 → k ≠ 62 → wkPers pp 0 (up2 (up2 S1 57 7 x) 58 7 g) k = up2 (up2 S1 57 7 x) 58 7 g k := fun k a c => wkPers_off a c _ _ _
  have oT : ∀ k, k ≠ 18 → k ≠ 19 → mPers (up2 T1 0 40 x) n g pp 0 (up2 T1 0 40 x) k = up2 T1 0 40 x k := fun k a c => mPers_off a c _ _ _
  generalize wkPers pp 0 (up2 (up2 S1 57 7 x) 58 7 g) = S4 at *
  generalize mPers (up2 T1 0 40 x) n g pp 0 (up2 T1 0 40 x) = T4 at *
  have sm5 : mSame T1 (up2 (up2 T4 0 33 g) 0 32 (T1 0 32 + 1)) := by
    refine mSame.up0 (mSame.up0 ⟨fun k a c => ?_, ?_⟩ (by decide)) (by decide)
    · rw [oT k (by omega) (by omega), up2_row (by omega)]
    · rw [oT 0 (by decide) (by decide), up2_col (by decide)]
  refine ⟨⟨?_, ?_, ?_, ?_, ?_⟩, ?_⟩
  · refine ⟨?_, ?_, ?_, ?_⟩
    · rw [up2_row (show 57 ≠ 58 by decide), oS 57 (by decide) (by decide), up2_row (show 57 ≠ 58 by decide), up2_col (by decide)]; exact h1
    · rw [up2_row (by omega), oS s (by omega) (by omega), up2_row (by omega), up2_row (by omega)]; exact h2
    · rw [up2_row (by omega), oS (s + 6) (by omega) (by omega), up2_row (by omega), up2_row (by omega)]; exact h3
    · rw [up2_col (by decide), oS 58 (by decide) (by decide), up2_col (by decide), up2_row (by decide)]; exact h4
  · refine sh.off (fun k a c _ => ?_) (fun k a c => ?_)
    · rw [up2_row (by omega), oS k (by omega) (by omega), up2_row (by omega), up2_row (by omega)]
    · rw [up2_row (by omega), up2_row (by omega), oT k (by omega) (by omega), up2_row (by omega)]
  · refine ⟨?_, ?_, ?_⟩
    · rw [up2_same, up2_same, oS 58 (by decide) (by decide), up2_col (show 6 ≠ 7 by decide), up2_row (by decide), k1]
    · rw [up2_col (show 33 ≠ 32 by decide), up2_same, up2_col (show 7 ≠ 6 by decide), oS 58 (by decide) (by decide), up2_same]
    · rw [up2_col (show 34 ≠ 32 by decide), up2_col (show 34 ≠ 33 by decide), oT 0 (by decide) (by decide), up2_col (by decide), up2_col (show 4 ≠ 6 by decide), oS 58 (by decide) (by decide), up2_col (by decide), up2_row (by decide)]; exact k3
  · intro q hq
    obtain ⟨a1, a2, a3, a4⟩ := h5 q hq
    rw [up2_row (show 59 ≠ 58 by decide), up2_row (show 60 ≠ 58 by decide), up2_row (show 61 ≠ 58 by decide), up2_row (show 62 ≠ 58 by decide), sm5.1 16 (by decide) (by decide), sm5.1 17 (by decide) (by decide), oS 59 (by decide) (by decide), oS 60 (by decide) (by decide)]
    simp (disch := decide) only [up2_row]
    exact ⟨a1, a2, pe q hq⟩
  · intro q hq
    rw [sm5.there, sm5.spare, sm5.1 4 (by decide) (by decide), sm5.1 16 (by decide) (by decide)]
    simp (disch := decide) only [up2_row, oS]
    exact h6 q hq
  · rw [up2_row (show 57 ≠ 58 by decide), oS 57 (by decide) (by decide), up2_row (show 57 ≠ 58 by decide), up2_same, up2_col (show 40 ≠ 32 by decide), up2_col (show 40 ≠ 33 by decide), oT 0 (by decide) (by decide), up2_same]
theorem PO.sun (po : PO T pp) : PO (mSun n r pp bb T) pp := po.same mSun_same
end R2
