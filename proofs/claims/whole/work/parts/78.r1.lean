/-! ===== class and model: what comes of THINGS is the same ===== -/
section R1
variable {S T : Nat → Nat → Int32} {s n pp : Nat}
theorem fst1_congr {P Q : Nat → Bool} : ∀ (m i : Nat), (∀ j, i ≤ j → j < i + m → P j = Q j) → fst1 P m i = fst1 Q m i := by
  intro m
  induction m with
  | zero => intro i _; rfl
  | succ m ih => intro i h; rw [fst1, fst1, h i (by omega) (by omega), ih (i + 1) (fun j a c => h j (by omega) (by omega))]
/-- the IFS are the same -/
def RI1 (S T : Nat → Nat → Int32) (s n : Nat) : Prop := ∀ i, i < n → (S (s + 3) i = T 10 i ∧ S (s + 4) i = T 11 i ∧ S (s + 5) i = T 12 i ∧ T 9 i = b2i (hasB (S (s + 2) 3) (nI i))) ∧ ∃ g, g < 10 ∧ S (s + 5) i = nI g
theorem RI1.gv (h : RI1 S T s n) : GvOk (S (s + 5)) n ∧ GvOk (T 12) n := by
  refine ⟨fun i hi => (h i hi).2, fun i hi => ?_⟩
  obtain ⟨g, h1, h2⟩ := (h i hi).2
  exact ⟨g, h1, by rw [← (h i hi).1.2.2.1]; exact h2⟩
theorem brg_brM {dn x : Int32} {i : Nat} (h : RI1 S T s n) (hi : i < n) : brg (S (s + 3)) (S (s + 4)) (S (s + 5)) (S (s + 2) 3) dn x i = brM (T 10) (T 11) (T 12) (T 9) dn x i := by
  obtain ⟨⟨h1, h2, h3, h4⟩, -⟩ := h i hi
  unfold brg brM
  rw [h1, h2, h3]
  have e : decide (T 9 i = 0) = !hasB (S (s + 2) 3) (nI i) := by
    rw [h4]
    cases hasB (S (s + 2) 3) (nI i) <;> decide
  rw [e]
  cases decide (x &&& T 10 i = T 10 i) <;> cases hasB (S (s + 2) 3) (nI i) <;> cases decide (x &&& T 11 i = 0) <;> cases hasB x (T 12 i) <;> cases hasB dn (nI i) <;> rfl
theorem cF_mF {dn : Int32} (h : RI1 S T s n) : cF S (s + 2) n dn = mF T n dn := by
  funext x
  unfold cF mF
  exact fst1_congr n 0 (fun j _ hj => brg_brM h (by omega))
theorem allF_congr {F : Int32 → Int32} {gv gv' : Nat → Int32} (hF : ∀ x, F x = -1 ∨ ∃ j, j < n ∧ F x = nI j) (hn : n < 2 ^ 31) (hg : ∀ i, i < n → gv i = gv' i) : ∀ (m : Nat) (x : Int32), allF F gv m x = allF F gv' m x := by
  intro m
  induction m with
  | zero => intro x; rfl
  | succ m ih =>
    intro x
    rw [allF, allF]
    by_cases e : F x = -1
    · rw [if_pos e, if_pos e]
    · obtain ⟨j, h1, h2⟩ := (hF x).resolve_left e
      rw [if_neg e, if_neg e, h2, nI_clamp (by omega), hg j h1, ih]
/-- WHAT COMES of x, were dn denied: the same on both sides -/
theorem all_eq {dn : Int32} (h : RI1 S T s n) (h12 : n ≤ 12) (m : Nat) (x : Int32) : allF (cF S (s + 2) n dn) (S (s + 5)) m x = allF (mF T n dn) (T 12) m x := by
  rw [cF_mF h]
  exact allF_congr (n := n) (fun x => mF_or x) (by omega) (fun i hi => (h i hi).1.2.2.1) m x
theorem sumB_congr {f g : Nat → Int32} {x : Int32} : ∀ (m i : Nat) (y : Int32), (∀ j, i ≤ j → j < i + m → f j = g j) → sumB f x m i y = sumB g x m i y := by
  intro m
  induction m with
  | zero => intro i y _; rfl
  | succ m ih => intro i y h; rw [sumB, sumB, h i (by omega) (by omega), ih _ _ (fun j a c => h j (by omega) (by omega))]
theorem ledF_congr {nd nd' gv gv' : Nat → Int32} {dn x : Int32} : ∀ (m i : Nat) (y : Int32), (∀ j, i ≤ j → j < i + m → nd j = nd' j ∧ gv j = gv' j) → ledF nd gv dn x m i y = ledF nd' gv' dn x m i y := by
  intro m
  induction m with
  | zero => intro i y _; rfl
  | succ m ih => intro i y h; rw [ledF, ledF, (h i (by omega) (by omega)).1, (h i (by omega) (by omega)).2, ih _ _ (fun j a c => h j (by omega) (by omega))]
theorem led_eq (h : RI1 S T s n) (hd : S 17 4 = T 0 34) : (fun x => ledF (S (s + 3)) (S (s + 5)) (S 17 4) x n 0 0) = mLed T n := by
  funext x
  unfold mLed
  rw [hd]
  exact ledF_congr n 0 0 (fun j _ hj => ⟨(h j (by omega)).1.1, (h j (by omega)).1.2.2.1⟩)
theorem endF_congr {f g : Nat → Int32} {dn : Int32} : ∀ (m i : Nat) (y : Int32), (∀ j, i ≤ j → j < i + m → f j = g j) → endF f dn m i y = endF g dn m i y := by
  intro m
  induction m with
  | zero => intro i y _; rfl
  | succ m ih => intro i y h; rw [endF, endF, h i (by omega) (by omega), ih _ _ (fun j a c => h j (by omega) (by omega))]
theorem colB_congr {P Q : Nat → Bool} : ∀ (m i : Nat) (y : Int32), (∀ j, i ≤ j → j < i + m → P j = Q j) → colB P m i y = colB Q m i y := by
  intro m
  induction m with
  | zero => intro i y _; rfl
  | succ m ih => intro i y h; rw [colB, colB, h i (by omega) (by omega), ih _ _ (fun j a c => h j (by omega) (by omega))]
theorem cntP_congr {P Q : Nat → Bool} : ∀ (m i : Nat) (y : Int32), (∀ j, i ≤ j → j < i + m → P j = Q j) → cntP P m i y = cntP Q m i y := by
  intro m
  induction m with
  | zero => intro i y _; rfl
  | succ m ih => intro i y h; rw [cntP, cntP, h i (by omega) (by omega), ih _ _ (fun j a c => h j (by omega) (by omega))]
theorem sumM_cntP {P : Nat → Bool} : ∀ (m i : Nat) (y : Int32), sumM P m i y = cntP P m i y := by
  intro m
  induction m with
  | zero => intro i y; rfl
  | succ m ih =>
    intro i y
    rw [sumM, cntP, ih]
    cases P i with
    | true => rfl
    | false => rw [show y + b2i false = y from Int32.add_zero y]; rfl
theorem orN_andN {f g : Nat → Int32} (w : Int32) : ∀ (m i : Nat) (x : Int32), (∀ j, i ≤ j → j < i + m → f j = g j) → w &&& (orN f m i x ^^^ -1) = andN g m i (w &&& (x ^^^ -1)) := by
  intro m
  induction m with
  | zero => intro i x _; rfl
  | succ m ih =>
    intro i x h
    rw [orN, andN, ih (i + 1) _ (fun j a c => h j (by omega) (by omega)), h i (by omega) (by omega)]
    congr 1
    refine b_ext (fun k hk => ?_)
    rw [b_and, b_not _ hk, b_or, b_and, b_and, b_not _ hk, b_not _ hk]
    cases bt w k <;> cases bt x k <;> cases bt (g i) k <;> rfl
/-- the first of those with most, on both sides -/
theorem mst_eq {w v : Nat → Int32} : ∀ (m i : Nat) (z y : Int32), i + m < 100 → (∀ j, j < i + m → w j = v j) → (z = -1 ∨ ∃ k, k < i ∧ z = nI k ∧ y = w k) → mstF w m i z y = mstM v m i z := by
  intro m
  induction m with
  | zero => intro i z y _ _ _; rfl
  | succ m ih =>
    intro i z y hi h hz
    rw [mstF, mstM]
    rcases hz with e | ⟨k, h1, h2, h3⟩
    · rw [if_pos (Or.inl e), if_pos (Or.inl e)]
      exact ih (i + 1) _ _ (by omega) (fun j hj => h j (by omega)) (Or.inr ⟨i, by omega, rfl, rfl⟩)
    · have hne : ¬ z = -1 := by rw [h2]; exact nI_m1 (by omega)
      have hc : z.toNatClampNeg = k := by rw [h2]; exact nI_clamp (by omega)
      rw [hc, ← h k (by omega), ← h i (by omega), h3]
      by_cases c : w k < w i
      · rw [if_pos (Or.inr c), if_pos (Or.inr c)]
        exact ih (i + 1) _ _ (by omega) (fun j hj => h j (by omega)) (Or.inr ⟨i, by omega, rfl, rfl⟩)
      · rw [if_neg (fun q => q.elim hne c), if_neg (fun q => q.elim hne c), ← h3]
        exact ih (i + 1) _ _ (by omega) (fun j hj => h j (by omega)) (Or.inr ⟨k, by omega, h2, h3⟩)
theorem bm_eq {w v : Nat → Int32} : ∀ (m i z : Nat), (∀ j, j < i + m → w j = v j) → z < i + m → bmF w m i z = bmF v m i z := by
  intro m
  induction m with
  | zero => intro i z _ _; rfl
  | succ m ih =>
    intro i z h hz
    rw [bmF, bmF, h z (by omega), h i (by omega)]
    refine ih (i + 1) _ (fun j hj => h j (by omega)) ?_
    split <;> omega
end R1
