/-! ===== class and model: conditionals that say nothing new ===== -/
section R9
variable {S T : Nat → Nat → Int32} {s n pp r bb : Nat}
theorem b_colB {P : Nat → Bool} : ∀ (m i : Nat) (y : Int32) (b : Nat), i + m ≤ 32 → b < 32 → bt (colB P m i y) b = (bt y b || (decide (i ≤ b) && decide (b < i + m) && P b)) := by
  intro m
  induction m with
  | zero =>
    intro i y b _ _
    rw [colB]
    by_cases c : i ≤ b
    · rw [decide_eq_false (show ¬ b < i + 0 by omega), Bool.and_false, Bool.false_and, Bool.or_false]
    · rw [decide_eq_false c, Bool.false_and, Bool.false_and, Bool.or_false]
  | succ m ih =>
    intro i y b hi hb
    rw [colB, ih (i + 1) _ b (by omega) hb]
    by_cases e : b = i
    · subst e
      rw [decide_eq_false (show ¬ b + 1 ≤ b by omega), decide_eq_true (show b ≤ b from Nat.le_refl b), decide_eq_true (show b < b + (m + 1) by omega)]
      cases e1 : P b with
      | true => rw [if_pos rfl, b_or, b_shl1 hb hb, decide_eq_true rfl]; cases bt y b <;> rfl
      | false => rw [if_neg (by decide)]; cases bt y b <;> rfl
    · have hl : bt (if P i = true then y ||| 1 <<< (nI i &&& 31) else y) b = bt y b := by
        by_cases c : P i = true
        · rw [if_pos c, b_or, b_shl1 (by omega) hb, decide_eq_false e, Bool.or_false]
        · rw [if_neg c]
      rw [hl, decide_eq_decide.mpr (show i + 1 ≤ b ↔ i ≤ b by omega), decide_eq_decide.mpr (show b < i + 1 + m ↔ b < i + (m + 1) by omega)]
/-- the first of those but one -/
theorem fst1_skip {P P' : Nat → Bool} {k : Nat} (h : ∀ i, i < 32 → P' i = (P i && !decide (i = k))) : ∀ (m i : Nat), i + m ≤ 32 → k < 32 → fst1 P' m i = if fst1 P m i = nI k then fst1 P (i + m - (k + 1)) (k + 1) else fst1 P m i := by
  intro m
  induction m with
  | zero => intro i _ hk; rw [fst1, fst1, if_neg (fun q => nI_m1 (show k < 2 ^ 31 by omega) q.symm)]
  | succ m ih =>
    intro i hi hk
    rw [fst1, fst1, h i (by omega), ih (i + 1) (by omega) hk]
    by_cases e : i = k
    · subst e
      rw [decide_eq_true rfl, show (P i && !true) = false by cases P i <;> rfl, if_neg (by decide)]
      have ne : ¬ fst1 P m (i + 1) = nI i := by
        intro q
        rcases fst1_lt (P := P) m (i + 1) with e | ⟨j, j1, j2, j3, -⟩
        · rw [e] at q; exact nI_m1 (show i < 2 ^ 31 by omega) q.symm
        · rw [j3] at q
          have := congrArg Int32.toNatClampNeg q
          rw [nI_clamp (by omega), nI_clamp (by omega)] at this
          omega
      rw [if_neg ne]
      cases P i with
      | true => rw [if_pos rfl, if_pos rfl, show i + (m + 1) - (i + 1) = m by omega]
      | false => rw [if_neg (show ¬ false = true by decide), if_neg ne]
    · rw [decide_eq_false e, show (P i && !false) = P i by cases P i <;> rfl]
      cases P i with
      | true =>
        rw [if_pos rfl, if_pos rfl, if_neg (fun q => e (by have := congrArg Int32.toNatClampNeg q; rwa [nI_clamp (by omega), nI_clamp (by omega)] at this))]
      | false =>
        rw [if_neg (show ¬ false = true by decide), show i + 1 + m - (k + 1) = i + (m + 1) - (k + 1) by omega, if_neg (show ¬ false = true by decide)]
/-- the first from i0 on -/
def mFf (T : Nat → Nat → Int32) (n : Nat) (dn t : Int32) (i0 : Nat) : Int32 := fst1 (brM (T 10) (T 11) (T 12) (T 9) dn t) (n - i0) i0
theorem mFf_0 {dn t : Int32} : mFf T n dn t 0 = mF T n dn t := rfl
theorem mF_skip {dn t : Int32} {k : Nat} (h12 : n ≤ 12) (hk : k < 32) : mF T n (dn ||| 1 <<< (nI k &&& 31)) t = if mF T n dn t = nI k then mFf T n dn t (k + 1) else mF T n dn t := by
  unfold mF mFf
  rw [fst1_skip (P := brM (T 10) (T 11) (T 12) (T 9) dn t) (k := k) (fun i hi => ?_) n 0 (by omega) hk, Nat.zero_add]
  unfold brM
  rw [hasB_or1 hk hi]
  cases hasB dn (nI i) <;> cases decide (i = k) <;> cases (decide (t &&& T 10 i = T 10 i) == decide (T 9 i = 0)) <;> cases decide (t &&& T 11 i = 0) <;> cases hasB t (T 12 i) <;> rfl
/-- it would come to something else without its first conditional -/
def bad (F : Int32 → Nat → Int32) (gv f : Nat → Int32) (i : Nat) : Bool := !decide ((if F (nI i) ((F (nI i) 0).toNatClampNeg + 1) = -1 then nI i else f (nI i ||| 1 <<< (gv (F (nI i) ((F (nI i) 0).toNatClampNeg + 1)).toNatClampNeg &&& 31)).toNatClampNeg) = f i)
theorem b_idl {F : Int32 → Nat → Int32} {gv f : Nat → Int32} (hF : ∀ i, F (nI i) 0 = -1 ∨ ∃ j, j < 12 ∧ F (nI i) 0 = nI j) : ∀ (m i : Nat) (x : Int32) (b : Nat), b < 32 → (bt (idlF F gv f m i x) b = true ↔ bt x b = true ∧ ∀ j, i ≤ j → j < i + m → F (nI j) 0 = nI b → bad F gv f j = false) := by
  intro m
  induction m with
  | zero => intro i x b _; rw [idlF]; exact ⟨fun h => ⟨h, fun j _ _ => by omega⟩, fun h => h.1⟩
  | succ m ih =>
    intro i x b hb
    rw [idlF, ih (i + 1) _ b hb]
    have key : bt (if F (nI i) 0 = -1 then x else if (if F (nI i) ((F (nI i) 0).toNatClampNeg + 1) = -1 then nI i else f (nI i ||| 1 <<< (gv (F (nI i) ((F (nI i) 0).toNatClampNeg + 1)).toNatClampNeg &&& 31)).toNatClampNeg) = f i then x else x &&& (1 <<< (F (nI i) 0 &&& 31) ^^^ -1)) b = true ↔ bt x b = true ∧ (F (nI i) 0 = nI b → bad F gv f i = false) := by
      rcases hF i with e | ⟨j, j1, j2⟩
      · rw [if_pos e]
        refine ⟨fun h => ⟨h, fun q => ?_⟩, fun h => h.1⟩
        rw [e] at q
        exact absurd q.symm (nI_m1 (by omega))
      · rw [if_neg (by rw [j2]; exact nI_m1 (by omega))]
        by_cases c : (if F (nI i) ((F (nI i) 0).toNatClampNeg + 1) = -1 then nI i else f (nI i ||| 1 <<< (gv (F (nI i) ((F (nI i) 0).toNatClampNeg + 1)).toNatClampNeg &&& 31)).toNatClampNeg) = f i
        · rw [if_pos c]
          exact ⟨fun h => ⟨h, fun _ => by unfold bad; rw [decide_eq_true c]; rfl⟩, fun h => h.1⟩
        · rw [if_neg c, j2, b_and, b_not _ hb, b_shl1 (by omega) hb]
          have bd : bad F gv f i = true := by unfold bad; rw [decide_eq_false c]; rfl
          rw [bd]
          by_cases e : b = j
          · subst e
            rw [decide_eq_true rfl, Bool.not_true, Bool.and_false]
            exact ⟨fun h => (by cases h), fun h => absurd (h.2 rfl) (by decide)⟩
          · rw [decide_eq_false e, Bool.not_false, Bool.and_true]
            exact ⟨fun h => ⟨h, fun q => absurd (by have := congrArg Int32.toNatClampNeg q; rw [nI_clamp (by omega), nI_clamp (by omega)] at this; exact this.symm) e⟩, fun h => h.1⟩
    rw [key]
    constructor
    · rintro ⟨⟨h1, h2⟩, h3⟩
      refine ⟨h1, fun j a c => ?_⟩
      by_cases e : j = i
      · subst e; exact h2
      · exact h3 j (by omega) (by omega)
    · rintro ⟨h1, h2⟩
      exact ⟨⟨h1, h2 i (by omega) (by omega)⟩, fun j a c => h2 j (by omega) (by omega)⟩
theorem eqv_iff {f g : Nat → Int32} : ∀ (m i : Nat), eqvF f g m i = true ↔ ∀ j, i ≤ j → j < i + m → f j = g j := by
  intro m
  induction m with
  | zero => intro i; exact ⟨fun _ j _ _ => by omega, fun _ => rfl⟩
  | succ m ih =>
    intro i
    rw [eqvF]
    by_cases c : f i = g i
    · rw [if_pos c, ih]
      refine ⟨fun h j a d => ?_, fun h j a d => h j (by omega) (by omega)⟩
      by_cases e : j = i
      · subst e; exact c
      · exact h j (by omega) (by omega)
    · rw [if_neg c]
      exact ⟨fun h => (by cases h), fun h => absurd (h i (by omega) (by omega)) c⟩
/-- a conditional says nothing new: by every set, or by those where it is the first -/
theorem idle_iff {k : Nat} {f : Nat → Int32} (h12 : n ≤ 12) (hg : GvOk (T 12) n) (hk : k < n) (hf : ∀ j, j < 1024 → f j = allF (mF T n (T 0 34)) (T 12) 10 (nI j)) : mIdl T n k = true ↔ ∀ j, j < 1024 → mF T n (T 0 34) (nI j) = nI k → bad (mFf T n (T 0 34)) (T 12) f j = false := by
  have hn : n < 2 ^ 31 := by omega
  have C1 := mF_CF (T := T) (n := n) (dn := T 0 34) hg
  have C2 := mF_CF (T := T) (n := n) (dn := T 0 34 ||| 1 <<< (nI k &&& 31)) hg
  have sk : ∀ t, mF T n (T 0 34 ||| (1 : Int32) <<< (nI k &&& 31)) t = if mF T n (T 0 34) t = nI k then mFf T n (T 0 34) t (k + 1) else mF T n (T 0 34) t := fun t => mF_skip h12 (by omega)
  -- what bad says, where k is the first
  have bd : ∀ j, j < 1024 → mF T n (T 0 34) (nI j) = nI k → (bad (mFf T n (T 0 34)) (T 12) f j = false ↔ (if mF T n (T 0 34 ||| (1 : Int32) <<< (nI k &&& 31)) (nI j) = -1 then nI j else allF (mF T n (T 0 34)) (T 12) 10 (nI j ||| (1 : Int32) <<< (T 12 (mF T n (T 0 34 ||| (1 : Int32) <<< (nI k &&& 31)) (nI j)).toNatClampNeg &&& 31))) = allF (mF T n (T 0 34)) (T 12) 10 (nI j)) := by
    intro j hj e
    unfold bad
    rw [mFf_0, e, nI_clamp (by omega), ← hf j hj]
    have e2 : mF T n (T 0 34 ||| (1 : Int32) <<< (nI k &&& 31)) (nI j) = mFf T n (T 0 34) (nI j) (k + 1) := by rw [sk, if_pos e]
    rw [← e2]
    have e3 : (if mF T n (T 0 34 ||| (1 : Int32) <<< (nI k &&& 31)) (nI j) = -1 then nI j else f (nI j ||| (1 : Int32) <<< (T 12 (mF T n (T 0 34 ||| (1 : Int32) <<< (nI k &&& 31)) (nI j)).toNatClampNeg &&& 31)).toNatClampNeg) = (if mF T n (T 0 34 ||| (1 : Int32) <<< (nI k &&& 31)) (nI j) = -1 then nI j else allF (mF T n (T 0 34)) (T 12) 10 (nI j ||| (1 : Int32) <<< (T 12 (mF T n (T 0 34 ||| (1 : Int32) <<< (nI k &&& 31)) (nI j)).toNatClampNeg &&& 31))) := by
      rcases C2 (nI j) with q | ⟨i, i1, i2, g, g1, g2, g3⟩
      · rw [if_pos q, if_pos q]
      · rw [if_neg (by rw [i2]; exact nI_m1 (by omega)), if_neg (by rw [i2]; exact nI_m1 (by omega)), i2, nI_clamp (by omega), g2, or_shl g1, nI_clamp (by have := or_lt hj g1; omega), hf _ (or_lt hj g1)]
    rw [e3]
    simp
  unfold mIdl
  rw [eqv_iff]
  constructor
  · intro h j hj e
    rw [bd j hj e]
    have hj' := h j (by omega) (by omega)
    rcases cl_step C2 hn hj with ⟨e1, e2⟩ | ⟨i, g, i1, i2, g1, g2, g3, g4, g5⟩
    · rw [if_pos e1, ← hj']; exact e2.symm
    · rw [if_neg (by rw [i2]; exact nI_m1 (by omega)), i2, nI_clamp (by omega), g2, or_shl g1, ← hj', ← h _ (by omega) (by omega)]
      exact g5.symm
  · intro h
    have down : ∀ (m j : Nat), j < 1024 → 1024 ≤ j + m → allF (mF T n (T 0 34 ||| (1 : Int32) <<< (nI k &&& 31))) (T 12) 10 (nI j) = allF (mF T n (T 0 34)) (T 12) 10 (nI j) := by
      intro m
      induction m with
      | zero => intro j h1 h2; omega
      | succ m ih =>
        intro j hj hm
        by_cases e : mF T n (T 0 34) (nI j) = nI k
        · have b1 := (bd j hj e).mp (h j hj e)
          rw [← b1]
          rcases cl_step C2 hn hj with ⟨e1, e2⟩ | ⟨i, g, i1, i2, g1, g2, g3, g4, g5⟩
          · rw [if_pos e1]; exact e2
          · rw [if_neg (by rw [i2]; exact nI_m1 (by omega)), i2, nI_clamp (by omega), g2, or_shl g1, g5]
            exact ih _ g4 (by omega)
        · have e2 : mF T n (T 0 34 ||| (1 : Int32) <<< (nI k &&& 31)) (nI j) = mF T n (T 0 34) (nI j) := by rw [sk, if_neg e]
          rcases cl_step C1 hn hj with ⟨e3, e4⟩ | ⟨i, g, i1, i2, g1, g2, g3, g4, g5⟩
          · rw [e4, allF, if_pos (by rw [e2]; exact e3)]
          · rcases cl_step C2 hn hj with ⟨e5, -⟩ | ⟨i', g', i1', i2', g1', g2', g3', g4', g5'⟩
            · rw [e2, i2] at e5; exact absurd e5 (nI_m1 (by omega))
            · rw [e2, i2] at i2'
              have ei : i = i' := by have := congrArg Int32.toNatClampNeg i2'; rwa [nI_clamp (by omega), nI_clamp (by omega)] at this
              subst ei
              have eg : g = g' := by rw [g2] at g2'; have := congrArg Int32.toNatClampNeg g2'; rwa [nI_clamp (by omega), nI_clamp (by omega)] at this
              subst eg
              rw [g5, g5']
              exact ih _ g4 (by omega)
    exact fun j _ hj => down 1024 j (by omega) (by omega)
theorem low_n : ∀ n, n < 13 → ∀ b, b < 32 → bt ((1 : Int32) <<< (nI n &&& 31) - 1) b = decide (b < n) := by decide +kernel
theorem cFf_mFf {dn : Int32} (h : RI1 S T s n) : cFf S (s + 2) n dn = mFf T n dn := by
  funext x i0
  unfold cFf mFf
  rcases Nat.lt_or_ge n i0 with e | e
  · rw [show n - i0 = 0 by omega]; rfl
  · exact fst1_congr (n - i0) i0 (fun j _ hj => brg_brM h (by omega))
theorem mFf_or {dn x : Int32} {i0 : Nat} : mFf T n dn x i0 = -1 ∨ ∃ j, j < n ∧ mFf T n dn x i0 = nI j := by
  unfold mFf
  rcases fst1_lt (P := brM (T 10) (T 11) (T 12) (T 9) dn x) (n - i0) i0 with e | ⟨j, h1, h2, h3, -⟩
  · exact Or.inl e
  · exact Or.inr ⟨j, by omega, h3⟩
theorem bad_gv {dn : Int32} {gv gv' f : Nat → Int32} {i : Nat} (hn : n < 2 ^ 31) (hg : ∀ j, j < n → gv j = gv' j) : bad (mFf T n dn) gv f i = bad (mFf T n dn) gv' f i := by
  unfold bad
  rcases mFf_or (T := T) (n := n) (dn := dn) (x := nI i) (i0 := (mFf T n dn (nI i) 0).toNatClampNeg + 1) with e | ⟨j, h1, h2⟩
  · rw [if_pos e, if_pos e]
  · rw [h2, nI_clamp (by omega), hg j h1]
/-- the conditionals that say nothing new, on both sides -/
theorem idle_eq {f : Nat → Int32} (h : Rq S T s n pp r bb) : idlF (cFf S (s + 2) n (S 17 4)) (S (s + 5)) (fillS (cF S (s + 2) n (S 17 4)) (S (s + 5)) 1024 f) 1024 0 (((1 : Int32) <<< (nI n &&& 31) - 1) &&& (S 17 4 ^^^ -1)) = colB (fun i => !hasB (T 0 34) (nI i) && mIdl T n i) n 0 0 := by
  have h12 : n ≤ 12 := h.2.2.2.1.2.1
  have hg := h.2.2.2.1.2.2.1
  have tb := tab_eq (f := f) h
  generalize fillS (cF S (s + 2) n (S 17 4)) (S (s + 5)) 1024 f = F at tb ⊢
  rw [h.dn, cFf_mFf h.2.1.1]
  refine b_ext (fun b hb => ?_)
  have k1 := b_idl (F := mFf T n (T 0 34)) (gv := S (s + 5)) (f := F) (fun i => by
    rcases mFf_or (T := T) (n := n) (dn := T 0 34) (x := nI i) (i0 := 0) with e | ⟨j, a, c⟩
    · exact Or.inl e
    · exact Or.inr ⟨j, by omega, c⟩) 1024 0 (((1 : Int32) <<< (nI n &&& 31) - 1) &&& (T 0 34 ^^^ -1)) b hb
  rw [b_and, b_not _ hb, low_n n (by omega) b hb] at k1
  rw [b_colB n 0 0 b (by omega) hb, b_0]
  by_cases hn : b < n
  · rw [decide_eq_true hn] at k1
    rw [decide_eq_true (show 0 ≤ b by omega), decide_eq_true (show b < 0 + n by omega), hasB_bt hb]
    have k2 := idle_iff (T := T) (k := b) (f := F) h12 hg hn tb
    cases e1 : bt (T 0 34) b with
    | true =>
      rw [e1] at k1
      cases e2 : bt (idlF (mFf T n (T 0 34)) (S (s + 5)) F 1024 0 (((1 : Int32) <<< (nI n &&& 31) - 1) &&& (T 0 34 ^^^ -1))) b with
      | false => rfl
      | true => exact absurd (k1.mp e2).1 (by decide)
    | false =>
      rw [e1] at k1
      have k3 : bt (idlF (mFf T n (T 0 34)) (S (s + 5)) F 1024 0 (((1 : Int32) <<< (nI n &&& 31) - 1) &&& (T 0 34 ^^^ -1))) b = true ↔ mIdl T n b = true := by
        rw [k1, k2]
        constructor
        · rintro ⟨-, q⟩ j hj e
          rw [← bad_gv (gv := S (s + 5)) (by omega) (fun i hi => (h.2.1.1 i hi).1.2.2.1)]
          exact q j (by omega) (by omega) e
        · intro q
          refine ⟨rfl, fun j _ hj e => ?_⟩
          rw [bad_gv (gv' := T 12) (by omega) (fun i hi => (h.2.1.1 i hi).1.2.2.1)]
          exact q j (by omega) e
      cases e2 : mIdl T n b with
      | true => rw [k3.mpr e2]; rfl
      | false =>
        cases e3 : bt (idlF (mFf T n (T 0 34)) (S (s + 5)) F 1024 0 (((1 : Int32) <<< (nI n &&& 31) - 1) &&& (T 0 34 ^^^ -1))) b with
        | false => rfl
        | true => rw [k3.mp e3] at e2; cases e2
  · rw [decide_eq_false hn] at k1
    rw [decide_eq_false (show ¬ b < 0 + n by omega), Bool.and_false, Bool.false_and, Bool.or_false]
    cases e2 : bt (idlF (mFf T n (T 0 34)) (S (s + 5)) F 1024 0 (((1 : Int32) <<< (nI n &&& 31) - 1) &&& (T 0 34 ^^^ -1))) b with
    | false => rfl
    | true => exact absurd (k1.mp e2).1 (by cases bt (T 0 34) b <;> decide)
end R9
