/-! ===== class and model: all sets at once ===== -/
section R8
variable {S T : Nat → Nat → Int32} {s n pp r bb : Nat}
/-- the first conditional that brings something brings something new -/
def CF (F : Int32 → Int32) (gv : Nat → Int32) (n : Nat) : Prop := ∀ x, F x = -1 ∨ ∃ j, j < n ∧ F x = nI j ∧ ∃ g, g < 10 ∧ gv j = nI g ∧ bt x g = false
theorem mF_CF {dn : Int32} (hg : GvOk (T 12) n) : CF (mF T n dn) (T 12) n := by
  intro x
  rcases mF_cases (S := T) (n := n) (dn := dn) (t := x) with e | ⟨j, h1, h2, h3⟩
  · exact Or.inl e
  · obtain ⟨g, g1, g2⟩ := hg j h1
    refine Or.inr ⟨j, h1, h2, g, g1, g2, ?_⟩
    unfold brM at h3
    have := (Bool.and_eq_true _ _ |>.mp h3).2
    rw [g2, hasB_bt (by omega)] at this
    simpa using this
def mis (x : Nat) : Nat := (bcI (nI (1023 ^^^ x))).toNatClampNeg
theorem mis_lt : ∀ x, x < 1024 → ∀ g, g < 10 → bt (nI x) g = false → mis (x ||| 2 ^ g) + 1 = mis x := by decide +kernel
theorem mis_0 : ∀ x, x < 1024 → (mis x = 0 → x = 1023) ∧ mis x ≤ 10 := by decide +kernel
theorem b_1023 : ∀ g, g < 10 → bt (nI 1023) g = true := by decide +kernel
theorem cl_more {F : Int32 → Int32} {gv : Nat → Int32} (hF : CF F gv n) (hn : n < 2 ^ 31) : ∀ (m x : Nat), x < 1024 → mis x ≤ m → allF F gv (m + 1) (nI x) = allF F gv m (nI x) := by
  intro m
  induction m with
  | zero =>
    intro x hx hm
    have e := (mis_0 x hx).1 (by omega)
    subst e
    rw [allF, allF]
    rcases hF (nI 1023) with e | ⟨j, -, -, g, g1, -, g3⟩
    · rw [if_pos e]
    · rw [b_1023 g g1] at g3; cases g3
  | succ m ih =>
    intro x hx hm
    rw [allF, show allF F gv (m + 1) (nI x) = if F (nI x) = -1 then nI x else allF F gv m (nI x ||| 1 <<< (gv (F (nI x)).toNatClampNeg &&& 31)) from rfl]
    rcases hF (nI x) with e | ⟨j, j1, j2, g, g1, g2, g3⟩
    · rw [if_pos e, if_pos e]
    · have hne : ¬ F (nI x) = -1 := by rw [j2]; exact nI_m1 (by omega)
      rw [if_neg hne, if_neg hne, j2, nI_clamp (by omega), g2, or_shl g1]
      have := mis_lt x hx g g1 g3
      exact ih _ (or_lt hx g1) (by omega)
/-- ALL is a fixed point: it may be reckoned by one step and the rest -/
theorem cl_step {F : Int32 → Int32} {gv : Nat → Int32} (hF : CF F gv n) (hn : n < 2 ^ 31) {x : Nat} (hx : x < 1024) : (F (nI x) = -1 ∧ allF F gv 10 (nI x) = nI x) ∨ ∃ j g, j < n ∧ F (nI x) = nI j ∧ g < 10 ∧ gv j = nI g ∧ x < x ||| 2 ^ g ∧ x ||| 2 ^ g < 1024 ∧ allF F gv 10 (nI x) = allF F gv 10 (nI (x ||| 2 ^ g)) := by
  rcases hF (nI x) with e | ⟨j, j1, j2, g, g1, g2, g3⟩
  · refine Or.inl ⟨e, ?_⟩
    rw [allF, if_pos e]
  · refine Or.inr ⟨j, g, j1, j2, g1, g2, ?_, or_lt hx g1, ?_⟩
    · rcases Nat.lt_or_ge x (x ||| 2 ^ g) with z | z
      · exact z
      · exfalso
        have e : x ||| 2 ^ g = x := Nat.le_antisymm z Nat.left_le_or
        have := congrArg (fun y => Nat.testBit y g) e
        simp only [Nat.testBit_or, Nat.testBit_two_pow_self, Bool.or_true] at this
        rw [b_nI x g (by omega), ← this] at g3
        cases g3
    · have hne : ¬ F (nI x) = -1 := by rw [j2]; exact nI_m1 (by omega)
      rw [show allF F gv 10 (nI x) = if F (nI x) = -1 then nI x else allF F gv 9 (nI x ||| 1 <<< (gv (F (nI x)).toNatClampNeg &&& 31)) from rfl, if_neg hne, j2, nI_clamp (by omega), g2, or_shl g1]
      have h1 := mis_lt x hx g g1 g3
      have h2 := (mis_0 x hx).2
      exact (cl_more hF hn 9 _ (or_lt hx g1) (by omega)).symm
theorem fill_eq {F : Int32 → Int32} {gv : Nat → Int32} (hF : CF F gv n) (hn : n < 2 ^ 31) : ∀ (m : Nat) (f : Nat → Int32), m ≤ 1024 → (∀ j, m ≤ j → j < 1024 → f j = allF F gv 10 (nI j)) → ∀ j, j < 1024 → fillS F gv m f j = allF F gv 10 (nI j) := by
  intro m
  induction m with
  | zero => intro f _ h j hj; exact h j (by omega) hj
  | succ m ih =>
    intro f hm h
    rw [fillS]
    refine ih _ (by omega) (fun j h1 h2 => ?_)
    by_cases e : j = m
    · subst e
      rw [updS]
      rcases cl_step hF hn h2 with ⟨e1, e2⟩ | ⟨k, g, k1, k2, g1, g2, g3, g4, g5⟩
      · rw [if_pos e1, e2]
      · rw [if_neg (by rw [k2]; exact nI_m1 (by omega)), k2, nI_clamp (by omega), g2, or_shl g1, nI_clamp (by omega), h _ (by omega) g4, g5]
    · rw [updN e]
      exact h j (by omega) h2
theorem fillS_congr {F : Int32 → Int32} {gv gv' : Nat → Int32} (hF : ∀ x, F x = -1 ∨ ∃ j, j < n ∧ F x = nI j) (hn : n < 2 ^ 31) (hg : ∀ i, i < n → gv i = gv' i) : ∀ (m : Nat) (f : Nat → Int32), fillS F gv m f = fillS F gv' m f := by
  intro m
  induction m with
  | zero => intro f; rfl
  | succ m ih =>
    intro f
    rw [fillS, fillS, ih]
    congr 2
    by_cases e : F (nI m) = -1
    · rw [if_pos e, if_pos e]
    · obtain ⟨j, h1, h2⟩ := (hF (nI m)).resolve_left e
      rw [if_neg e, if_neg e, h2, nI_clamp (by omega), hg j h1]
/-- every entry of the class's table is what comes of that set, by the model -/
theorem tab_eq {f : Nat → Int32} (h : Rq S T s n pp r bb) : ∀ j, j < 1024 → fillS (cF S (s + 2) n (S 17 4)) (S (s + 5)) 1024 f j = allF (mF T n (T 0 34)) (T 12) 10 (nI j) := by
  intro j hj
  have h12 : n ≤ 12 := h.2.2.2.1.2.1
  rw [h.dn, cF_mF h.2.1.1, fillS_congr (n := n) (gv' := T 12) mF_or (by omega) (fun i hi => (h.2.1.1 i hi).1.2.2.1)]
  exact fill_eq (mF_CF h.2.2.2.1.2.2.1) (by omega) 1024 f (by omega) (fun k _ _ => by omega) j hj
theorem cntS_eq {f g : Nat → Int32} {t : Int32} : ∀ (m i : Nat) (x : Int32), (∀ j, i ≤ j → j < i + m → f j = g j) → cntS f t m i x = sumM (fun i => hasB (g i) t) m i x := by
  intro m
  induction m with
  | zero => intro i x _; rfl
  | succ m ih =>
    intro i x h
    rw [cntS, sumM, h i (by omega) (by omega), ih _ _ (fun j a c => h j (by omega) (by omega))]
    congr 1
    cases hasB (g i) t with
    | true => rfl
    | false => exact (Int32.add_zero x).symm
theorem sets_eq {t : Int32} {f : Nat → Int32} (h : Rq S T s n pp r bb) : cntS (fillS (cF S (s + 2) n (S 17 4)) (S (s + 5)) 1024 f) t 1024 0 0 = sumM (fun i => hasB (allF (mF T n (T 0 34)) (T 12) 10 (nI i)) t) 1024 0 0 :=
  cntS_eq 1024 0 0 (fun j _ hj => tab_eq h j (by omega))
theorem resting_eq (h : Rq S T s n pp r bb) : cntP (fun i => decide (cF S (s + 2) n (S 17 4) (nI i) = -1)) 1024 0 0 = cntP (fun i => decide (mF T n (T 0 34) (nI i) = -1)) 1024 0 0 := by
  rw [h.dn, cF_mF h.2.1.1]
/-- a game of two on a bridge -/
theorem gam_ix : ∀ i, i < 4 → nI i >>> ((1 : Int32) &&& 31) = nI (i / 2) ∧ nI i &&& 1 = nI (i % 2) := by decide +kernel
theorem gam_eq {C C' : Nat → Bool} : ∀ (m i : Nat) (x y : Int32), i + m ≤ 4 → (∀ j, j < 4 → C j = C' j) → gamF C m i x y = gamM C' (fun i => 10 * nI (i / 2) + nI (i % 2)) m i x y := by
  intro m
  induction m with
  | zero => intro i x y _ _; rfl
  | succ m ih =>
    intro i x y hi h
    obtain ⟨e1, e2⟩ := gam_ix i (by omega)
    rw [gamF, gamM, h i (by omega), e1, e2, ih _ _ _ (by omega) h, ih _ _ _ (by omega) h]
theorem cont_eq {mi ot al sh : Int32} : cont mi ot al sh = !decide (gn mi ot al sh < gn (1 - mi) ot al sh) := by
  unfold cont
  by_cases c : gn mi ot al sh < gn (1 - mi) ot al sh
  · rw [decide_eq_true c, decide_eq_false (Int32.not_le.mpr c)]; rfl
  · rw [decide_eq_false c, decide_eq_true (Int32.not_lt.mp c)]; rfl
theorem game_eq {q o : Nat} (hs : s = 4 ∨ s = 44) (h : Rq S T s n pp r bb) (hq : q < pp) (ho : o < pp) : gamF (gamC (wkBegin S (S 0 9) n pp) q o) 4 0 0 (-1) = gamM (gamCM T n q o) (fun i => 10 * nI (i / 2) + nI (i % 2)) 4 0 0 (-1) := by
  have w := begin_WR hs h
  refine gam_eq 4 0 0 (-1) (by omega) (fun i hi => ?_)
  obtain ⟨e1, e2⟩ := gam_ix i hi
  obtain ⟨q1, q2, q3, -⟩ := w.2.2.2.2 q hq
  obtain ⟨o1, o2, o3, -⟩ := w.2.2.2.2 o ho
  unfold gamC gamCM gnM
  rw [e1, e2, q1, q2, q3, o1, o2, o3, cont_eq, cont_eq, Int32.and_comm (mThere T n o)]
/-- where to look next -/
theorem bc_n10 : ∀ x, x < 1024 → cntP (fun i => hasB (nI x) (nI i)) 10 0 (nI 0) = bcI (nI x) := by decide +kernel
theorem lok_ge {A : Nat → Int32} {x9 : Int32} {t : Nat} (hx : lowB x9 10) : 0 ≤ lokW A x9 t := by
  obtain ⟨c, hc, e⟩ := lowB_in hx
  obtain ⟨a, d, h1, h2, h3, h4⟩ := cnt_le (P := fun i => hasB x9 (nI i) && hasB (A i) (nI t)) (Q := fun i => hasB x9 (nI i)) (fun i _ q => (Bool.and_eq_true _ _ |>.mp q).1) 10 0 0 0 (by omega) (by omega)
  rw [e, bc_n10 c hc] at h4
  unfold lokW
  rw [show cntP (fun i => hasB x9 (nI i) && hasB (A i) (nI t)) 10 0 0 = nI a from h3, e, h4]
  have e2 : nI d - nI a = nI (d - a) := by
    have : nI d = nI (d - a) + nI a := by rw [nI_add]; congr 1; omega
    rw [this, Int32.add_sub_cancel]
  rw [e2]
  unfold mnI
  split
  · exact nI_pos' (by omega)
  · exact nI_pos' (by omega)
theorem lok_2 {w : Nat → Int32} : ∀ (m i : Nat) (z y : Int32), y ≤ (lokF w m i z y).2 := by
  intro m
  induction m with
  | zero => intro i z y; exact Int32.le_refl _
  | succ m ih =>
    intro i z y
    rw [lokF]
    by_cases c : y < w i
    · rw [if_pos c]; exact Int32.le_trans (Int32.le_of_lt c) (ih _ _ _)
    · rw [if_neg c]; exact ih _ _ _
theorem look_eq {q v : Nat} {x9 : Int32} (h : Rq S T s n pp r bb) (hq : q < pp) (hx : lowB x9 10) : (if x9 = 0 then (if nI v = 0 then -1 else 0) else if nI v = 0 then (lokF (lokW (supF S s n q) x9) 10 0 0 (-1)).1 else (lokF (lokW (supF S s n q) x9) 10 0 0 (-1)).2) = if x9 = 0 then (if nI v = 0 then -1 else mxI 0 (-1)) else if nI v = 0 then (lokF (lokW (mSup T n q) x9) 10 0 (-1) (-1)).1 else mxI 0 (lokF (lokW (mSup T n q) x9) 10 0 (-1) (-1)).2 := by
  rw [show supF S s n q = mSup T n q from by funext i; exact sup_eq h hq]
  have g0 := lok_ge (A := mSup T n q) (t := 0) hx
  have c0 : (-1 : Int32) < lokW (mSup T n q) x9 0 := Int32.lt_of_lt_of_le (by decide) g0
  have e : ∀ z, lokF (lokW (mSup T n q) x9) 10 0 z (-1) = lokF (lokW (mSup T n q) x9) 9 1 (nI 0) (lokW (mSup T n q) x9 0) := fun z => by
    rw [show lokF (lokW (mSup T n q) x9) 10 0 z (-1) = if (-1 : Int32) < lokW (mSup T n q) x9 0 then lokF (lokW (mSup T n q) x9) 9 1 (nI 0) (lokW (mSup T n q) x9 0) else lokF (lokW (mSup T n q) x9) 9 1 z (-1) from rfl, if_pos c0]
  rw [e 0, e (-1), show mxI 0 (-1) = 0 by decide]
  have g2 := Int32.le_trans g0 (lok_2 (w := lokW (mSup T n q) x9) 9 1 (nI 0) (lokW (mSup T n q) x9 0))
  have g3 : mxI 0 (lokF (lokW (mSup T n q) x9) 9 1 (nI 0) (lokW (mSup T n q) x9 0)).2 = (lokF (lokW (mSup T n q) x9) 9 1 (nI 0) (lokW (mSup T n q) x9 0)).2 := by
    unfold mxI
    by_cases c : 0 < (lokF (lokW (mSup T n q) x9) 9 1 (nI 0) (lokW (mSup T n q) x9 0)).2
    · rw [if_pos c]
    · rw [if_neg c]; exact Int32.le_antisymm g2 (Int32.not_lt.mp c)
  rw [g3]
end R8
