/-! ===== class and model: why (how sets are reached) ===== -/
section S1
variable {T : Nat → Nat → Int32} {n : Nat}
theorem fst1_all {P : Nat → Bool} : ∀ (m i : Nat), i + m < 2 ^ 31 → (fst1 P m i = -1 → ∀ k, i ≤ k → k < i + m → P k = false) ∧ ∀ j, j < 2 ^ 31 → fst1 P m i = nI j → ∀ k, i ≤ k → k < j → k < i + m → P k = false := by
  intro m
  induction m with
  | zero => intro i _; exact ⟨fun _ k _ _ => by omega, fun j _ _ k _ _ _ => by omega⟩
  | succ m ih =>
    intro i hi
    obtain ⟨i1, i2⟩ := ih (i + 1) (by omega)
    rw [fst1]
    cases e : P i with
    | true =>
      rw [if_pos rfl]
      refine ⟨fun q => absurd q (nI_m1 (by omega)), fun j hj q k h1 h2 => ?_⟩
      have := congrArg Int32.toNatClampNeg q
      rw [nI_clamp (by omega), nI_clamp hj] at this
      omega
    | false =>
      rw [if_neg (show ¬ false = true by decide)]
      refine ⟨fun q k h1 h2 => ?_, fun j hj q k h1 h2 h3 => ?_⟩
      · by_cases ek : k = i
        · subst ek; exact e
        · exact i1 q k (by omega) (by omega)
      · by_cases ek : k = i
        · subst ek; exact e
        · exact i2 j hj q k (by omega) h2 (by omega)
/-- one set is reached on: by every conditional that brings something -/
theorem rch_iff {dn : Int32} {gv : Nat → Int32} {x : Nat} (h12 : n ≤ 12) : ∀ (m i0 : Nat) (r : Nat → Int32), n ≤ i0 + m → ∀ y, (¬ rchF (mFf T n dn (nI x)) gv (nI x) m (mFf T n dn (nI x) i0) r y = 0 ↔ ¬ r y = 0 ∨ ∃ i, i0 ≤ i ∧ i < n ∧ brM (T 10) (T 11) (T 12) (T 9) dn (nI x) i = true ∧ y = (nI x ||| (1 : Int32) <<< (gv i &&& 31)).toNatClampNeg) := by
  intro m
  induction m with
  | zero =>
    intro i0 r hm y
    rw [rchF]
    refine ⟨Or.inl, ?_⟩
    rintro (q | ⟨i, h1, h2, -⟩)
    · exact q
    · omega
  | succ m ih =>
    intro i0 r hm y
    rw [rchF]
    by_cases e : mFf T n dn (nI x) i0 = -1
    · rw [if_pos e]
      refine ⟨Or.inl, ?_⟩
      rintro (q | ⟨i, h1, h2, h3, -⟩)
      · exact q
      · exfalso
        have := (fst1_all (P := brM (T 10) (T 11) (T 12) (T 9) dn (nI x)) (n - i0) i0 (by omega)).1 e i h1 (by omega)
        rw [h3] at this; cases this
    · rw [if_neg e]
      rcases fst1_lt (P := brM (T 10) (T 11) (T 12) (T 9) dn (nI x)) (n - i0) i0 with q | ⟨j, j0, j2, j3, j4⟩
      · exact absurd q e
      · have e2 : mFf T n dn (nI x) i0 = nI j := j3
        rw [e2, nI_clamp (by omega), ih (j + 1) _ (by omega) y]
        constructor
        · rintro (q | ⟨i, h1, h2, h3, h4⟩)
          · by_cases ey : y = (nI x ||| (1 : Int32) <<< (gv j &&& 31)).toNatClampNeg
            · exact Or.inr ⟨j, j0, by omega, j4, ey⟩
            · rw [updN ey] at q; exact Or.inl q
          · exact Or.inr ⟨i, by omega, h2, h3, h4⟩
        · rintro (q | ⟨i, h1, h2, h3, h4⟩)
          · refine Or.inl ?_
            by_cases ey : y = (nI x ||| (1 : Int32) <<< (gv j &&& 31)).toNatClampNeg
            · rw [ey, updS]; decide
            · rw [updN ey]; exact q
          · by_cases ei : i = j
            · subst ei
              refine Or.inl ?_
              rw [h4, updS]; decide
            · rcases Nat.lt_or_ge i j with z | z
              · exfalso
                have := (fst1_all (P := brM (T 10) (T 11) (T 12) (T 9) dn (nI x)) (n - i0) i0 (by omega)).2 j (by omega) j3 i h1 z (by omega)
                rw [h3] at this; cases this
              · exact Or.inr ⟨i, by omega, h2, h3, h4⟩
/-- y is reached from a by k steps -/
def RchN (T : Nat → Nat → Int32) (n a : Nat) : Nat → Nat → Prop
  | 0, y => y = a
  | k + 1, y => ∃ x i, RchN T n a k x ∧ i < n ∧ mBr T x i = true ∧ y = mTo T x i
theorem mBr_up {x i : Nat} (hg : GvOk (T 12) n) (hx : x < 1024) (hi : i < n) (hb : mBr T x i = true) : x < mTo T x i ∧ mTo T x i < 1024 ∧ mis (mTo T x i) + 1 = mis x := by
  obtain ⟨g, g1, g2⟩ := hg i hi
  have e : mTo T x i = x ||| 2 ^ g := by unfold mTo; rw [g2, or_shl g1, nI_clamp (by have := or_lt hx g1; omega)]
  have z : bt (nI x) g = false := by
    unfold mBr brM at hb
    have := (Bool.and_eq_true _ _ |>.mp hb).2
    rw [g2, hasB_bt (by omega)] at this
    simpa using this
  rw [e]
  refine ⟨?_, or_lt hx g1, mis_lt x hx g g1 z⟩
  rcases Nat.lt_or_ge x (x ||| 2 ^ g) with q | q
  · exact q
  · exfalso
    have e : x ||| 2 ^ g = x := Nat.le_antisymm q Nat.left_le_or
    have := congrArg (fun y => Nat.testBit y g) e
    simp only [Nat.testBit_or, Nat.testBit_two_pow_self, Bool.or_true] at this
    rw [b_nI x g (by omega), ← this] at z
    cases z
theorem RchN_in {a : Nat} (hg : GvOk (T 12) n) (ha : a < 1024) : ∀ (k y : Nat), RchN T n a k y → y < 1024 ∧ a ≤ y ∧ mis y + k = mis a := by
  intro k
  induction k with
  | zero => intro y h; have e : y = a := h; subst e; exact ⟨ha, Nat.le_refl _, rfl⟩
  | succ k ih =>
    intro y h
    obtain ⟨x, i, h1, h2, h3, h4⟩ := h
    obtain ⟨g1, g2, g3⟩ := ih x h1
    obtain ⟨u1, u2, u3⟩ := mBr_up hg g1 h2 h3
    rw [h4]
    exact ⟨u2, by omega, by omega⟩
end S1
