/-! ===== questions: nothing of weight is changed ===== -/
section T2
variable {S T S' T' X : Nat → Nat → Int32} {s t n pp r bb o na ns z : Nat}
/-- a question goes on over rows that are put back: what stays meanwhile -/
def K2 (T X : Nat → Nat → Int32) : Prop := Kpt T X ∧ (∀ k, k = 20 ∨ 25 < k → X k = T k) ∧ ∀ j, j = 2 ∨ j = 16 ∨ j = 25 ∨ j = 36 ∨ j = 37 ∨ (48 ≤ j ∧ j ≤ 50) → X 0 j = T 0 j
theorem K2.p : K2 T (mP T) := ⟨mP_Kpt, fun k h => mP_off (by omega), fun j _ => by rw [mP_off (by decide)]⟩
theorem K2.sun (h : K2 T X) : K2 T (mSun n r pp bb X) := ⟨h.1.sun, fun k hk => (mSun_off (by omega) (by omega) (by omega) (by omega) (by omega)).trans (h.2.1 k hk), fun j hj => (mSun_0 (by omega) (by omega) (by omega)).trans (h.2.2 j hj)⟩
theorem K2.sunN : ∀ (m : Nat) (X : Nat → Nat → Int32), K2 T X → K2 T (mSunN n r pp bb m X) := by
  intro m
  induction m with
  | zero => intro X h; exact h
  | succ m ih => intro X h; rw [mSunN]; exact ih _ h.sun
theorem K2.fst {q : Nat} : ∀ (m k : Nat) (X : Nat → Nat → Int32), K2 T X → K2 T (mFst (mSun n r pp bb) q m k X).2 := by
  intro m
  induction m with
  | zero => intro k X h; exact h
  | succ m ih =>
    intro k X h
    rw [mFst]
    split
    · exact h.sun
    · exact ih _ _ h.sun
theorem K2.som {v : Nat} : ∀ (m : Nat) (X : Nat → Nat → Int32), K2 T X → K2 T (mSom (mSun n r pp v) m X).2 := by
  intro m
  induction m with
  | zero => intro X h; exact h
  | succ m ih =>
    intro X h
    rw [mSom]
    split
    · exact ih _ h.sun
    · exact h.sun
theorem K2.bk (h : K2 T X) : K2 T (mBk X) := ⟨h.1.bk, fun k hk => by
  unfold mBk
  rw [unR_off (by omega) (by omega)]
  exact h.2.1 k hk, fun j hj => by
  unfold mBk
  rw [unR_0 (by omega)]
  exact h.2.2 j hj⟩
theorem K2.st {k j : Nat} {x : Int32} (h : K2 T X) (hk : (16 ≤ k ∧ k ≤ 19) ∨ (k = 0 ∧ (j = 35 ∨ j = 47))) : K2 T (up2 X k j x) := by
  refine ⟨h.1.step (fun q _ _ => up2_row (by omega)) (up2_row (by omega)), fun q hq => (up2_row (by omega)).trans (h.2.1 q hq), fun i hi => ?_⟩
  rcases hk with e | ⟨rfl, e⟩
  · rw [up2_row (by omega)]; exact h.2.2 i hi
  · rw [up2_col (by omega)]; exact h.2.2 i hi
/-- what was put back is as it was -/
theorem K2.ts (h : K2 T X) : tS T (mBk X) := by
  obtain ⟨h1, h2, h3⟩ := h
  refine ⟨fun k a c => ?_, fun j hj => ?_, fun q hq => ?_⟩
  · rcases (show k < 16 ∨ (k = 20 ∨ 25 < k) by omega) with z | z
    · exact h1.bk.1 k a (by omega)
    · unfold mBk; rw [unR_off (by omega) (by omega)]; exact h2 k z
  · rcases (show (j = 32 ∨ j = 33 ∨ j = 34 ∨ j = 35) ∨ (j < 32 ∨ 35 < j) by omega) with z | z
    · unfold mBk
      rcases z with rfl | rfl | rfl | rfl
      · rw [unR_b.1, h1.2, pkR_b.1]
      · rw [unR_b.2.1, h1.2, pkR_b.2.1]
      · rw [unR_b.2.2.1, h1.2, pkR_b.2.2.1]
      · rw [unR_b.2.2.2, h1.2, pkR_b.2.2.2]
    · unfold mBk; rw [unR_0 z]; exact h3 j (by omega)
  · unfold mBk
    rw [(unR_in hq).1, (unR_in hq).2.1, (unR_in hq).2.2.1, (unR_in hq).2.2.2, h1.2, (pkR_in hq).1, (pkR_in hq).2.1, (pkR_in hq).2.2.1, (pkR_in hq).2.2.2]
    exact ⟨rfl, rfl, rfl, rfl⟩
theorem K2.q (h : K2 (up2 T 0 2 0) X) : tS T (mBk X) ∧ mBk X 0 2 = 0 := ⟨(tS.u2 (by decide)).trans h.ts, by rw [h.bk.2.2 2 (by decide), up2_same]⟩
theorem tS.p : tS T (mP T) := ⟨fun k _ _ => mP_off (by omega), fun j _ => by rw [mP_off (by decide)], fun q _ => by rw [mP_off (by decide), mP_off (by decide), mP_off (by decide), mP_off (by decide)]; exact ⟨rfl, rfl, rfl, rfl⟩⟩
theorem K2.bear {k : Nat} : ∀ (m v : Nat) (X : Nat → Nat → Int32), K2 T X → tS T X → K2 T (mBear n r pp k m v X).2 ∧ tS T (mBear n r pp k m v X).2 := by
  intro m
  induction m with
  | zero => intro v X h h2; exact ⟨h, h2⟩
  | succ m ih =>
    intro v X h h2
    have a := K2.som (n := n) (r := r) (pp := pp) (v := v) k _ (h.st (k := 0) (j := 35) (x := nI v) (by decide))
    rw [mBear]
    split
    · exact ⟨a.bk, a.ts⟩
    · exact ih _ _ a.bk a.ts
theorem K2.smt (h : K2 T X) : K2 T (mSmt X pp) := ⟨h.1.step (fun k _ _ => mSmt_off (by omega) (by omega) (by omega)) (mSmt_off (by decide) (by decide) (by decide)), fun k hk => (mSmt_off (by omega) (by omega) (by omega)).trans (h.2.1 k hk), fun j hj => (mSmt_0 (by omega)).trans (h.2.2 j hj)⟩
theorem K2.yr : ∀ (m : Nat) (x : Int32) (X : Nat → Nat → Int32), K2 T X → K2 T (mYr n pp r bb m x X).2 := by
  intro m
  induction m with
  | zero => intro x X h; exact h
  | succ m ih => intro x X h; rw [mYr]; exact ih _ _ h.smt.sun
theorem cS.trans {U : Nat → Nat → Int32} (a : cS s S S') (c : cS s S' U) : cS s S U := ⟨fun k h1 h2 h3 h4 => (c.1 k h1 h2 h3 h4).trans (a.1 k h1 h2 h3 h4), fun j h => (c.2 j h).trans (a.2 j h)⟩
theorem cS.yr (hs : s = 4 ∨ s = 44) : ∀ (m : Nat) (x : Int32) (S : Nat → Nat → Int32), cS s S (wkYr s n pp r bb m x S).2 := by
  intro m
  induction m with
  | zero => intro x S; exact cS.rfl'
  | succ m ih =>
    intro x S
    rw [wkYr]
    have a : cS s S (wkDraw S s n pp) := ⟨fun k h1 _ _ h4 => wkDraw_off (by omega) h1, fun j hj => wkDraw_0 hj⟩
    exact (a.trans (cS.wsm wkStep_sm)).trans (ih _ _)
theorem wkWants_sm {q : Nat} : Wsm s S (wkWants S s r q).2 := fun k h1 h2 => wkWants_off (by omega) h1
theorem tS.wants {q : Nat} : tS T (mWants T n r q).2 := ⟨fun k _ h => mWants_off (by omega) (by omega), fun j _ => by rw [mWants_off (by decide) (by decide)], fun q _ => by rw [mWants_off (by decide) (by decide), mWants_off (by decide) (by decide), mWants_off (by decide) (by decide), mWants_off (by decide) (by decide)]; exact ⟨rfl, rfl, rfl, rfl⟩⟩
theorem tS.wh {x : xWh} : tS T (whH T x) := ⟨fun k _ h => whH_off (by omega) (by omega), fun j _ => by rw [whH_off (by decide) (by decide)], fun q _ => by rw [whH_off (by decide) (by decide), whH_off (by decide) (by decide), whH_off (by decide) (by decide), whH_off (by decide) (by decide)]; exact ⟨rfl, rfl, rfl, rfl⟩⟩
theorem Pok.qe {mC mM : xM} {as : List Value} {vC vM : Int32} (h : RELp S T s t n pp r bb o na ns z) (e : vC = vM) (kC : ∀ (G : xG) (b d : Nat) (h0 : xH), gB G ≤ b → 80 ≤ d → VM G mC d 0 0 (.ref (b + 0) :: as) (xE (some (.int vC)) (wH G b tbC S' h0)) (wH G b tbC S h0)) (kM : ∀ (G : xG) (b d : Nat) (h0 : xH), gB G ≤ b → 80 ≤ d → VM G mM d 0 0 (.ref (b + 0) :: as) (xE (some (.int vM)) (wH G b tbM T' h0)) (wH G b tbM T h0)) (c : cS s S S') (m : tS T T' ∧ T' 0 2 = 0) : Pok mC mM as S T (some (.int vC)) := by
  subst e
  exact Pok.q h kC kM c m.1 m.2
theorem Pok.qe0 {mC mM : xM} {as : List Value} {vC vM : Int32} (h : RELp S T s t n pp r bb o na ns z) (e : vC = vM) (kC : ∀ (G : xG) (b d : Nat) (h0 : xH), gB G ≤ b → 80 ≤ d → VM G mC d 0 0 (.ref (b + 0) :: as) (xE (some (.int vC)) (wH G b tbC S h0)) (wH G b tbC S h0)) (kM : ∀ (G : xG) (b d : Nat) (h0 : xH), gB G ≤ b → 80 ≤ d → VM G mM d 0 0 (.ref (b + 0) :: as) (xE (some (.int vM)) (wH G b tbM (up2 T 0 2 0) h0)) (wH G b tbM T h0)) : Pok mC mM as S T (some (.int vC)) :=
  Pok.qe h e kC kM cS.rfl' ⟨tS.u2 (by decide), up2_same⟩
theorem tS.c0 : tS T (up2 T 0 2 0) ∧ up2 T 0 2 0 0 2 = 0 := ⟨tS.u2 (by decide), up2_same⟩
end T2
