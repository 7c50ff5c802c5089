/-! ===== class and model: the fewest things, conditionals that are needed ===== -/
section R7
variable {S T : Nat → Nat → Int32} {s n pp r bb : Nat}
theorem low_c {c k : Nat} (h : c < 2 ^ k) : ∀ j, k ≤ j → j < 32 → bt (nI c) j = false := by
  intro j h1 h2
  rw [b_nI c j h2]
  exact Nat.testBit_lt_two_pow (Nat.lt_of_lt_of_le h (Nat.pow_le_pow_right (by decide) h1))
theorem bc_10 : ∀ j, j < 1024 → bcI (nI j) < 11 := by decide +kernel
theorem fewest_eq {a t : Nat} (h : Rq S T s n pp r bb) (ht : t < 10) : bstF (fun i => hasB (nI i) (nI t)) (fun i => hasB (allF (cF S (s + 2) n (S 17 4)) (S (s + 5)) 10 (nI a ||| nI i)) (nI t)) 1024 0 (-1) 11 = bstM (fun i => !decide (nI i &&& nI a = 0) || hasB (nI i) (nI t)) (fun i => hasB (allF (mF T n (T 0 34)) (T 12) 10 (nI a ||| nI i)) (nI t)) 1024 0 (-1) := by
  rw [show (fun i => hasB (allF (cF S (s + 2) n (S 17 4)) (S (s + 5)) 10 (nI a ||| nI i)) (nI t)) = fun i => hasB (allF (mF T n (T 0 34)) (T 12) 10 (nI a ||| nI i)) (nI t) from by funext i; rw [h.dn, come_eq h]]
  refine bst_eq (N := 1024) (fun i hi q => ?_) (fun i hi q1 q2 q3 => ?_) 1024 0 (-1) 11 (by omega) (Or.inl ⟨rfl, fun j hj => ?_⟩) (fun j hj => by omega) (by decide)
  · show (!decide (nI i &&& nI a = 0) || hasB (nI i) (nI t)) = true
    rw [show hasB (nI i) (nI t) = true from q, Bool.or_true]
  · have q2' : hasB (nI i) (nI t) = false := q2
    have q1' : (!decide (nI i &&& nI a = 0) || hasB (nI i) (nI t)) = true := q1
    have q3' : hasB (allF (mF T n (T 0 34)) (T 12) 10 (nI a ||| nI i)) (nI t) = true := q3
    rw [q2', Bool.or_false] at q1'
    have ne : ¬ nI i &&& nI a = 0 := by intro e; rw [e] at q1'; cases q1'
    obtain ⟨j, hj, ej⟩ := and_in (a := i) (nI a ^^^ -1)
    have eb : ∀ k, k < 32 → bt (nI j) k = (bt (nI i) k && !bt (nI a) k) := fun k hk => by rw [← ej, b_and, b_not _ hk]
    refine ⟨j, ?_, ?_, ?_, ?_⟩
    · rcases Nat.lt_or_ge j i with z | z
      · exact z
      · exfalso
        have : j = i := by omega
        subst this
        refine ne (b_ext (fun k hk => ?_))
        have := eb k hk
        rw [b_and, b_0]
        cases e1 : bt (nI j) k <;> cases e2 : bt (nI a) k <;> first | rfl | (rw [e1, e2] at this; cases this)
    · show hasB (nI j) (nI t) = false
      rw [hasB_bt (by omega)] at q2' ⊢
      rw [eb t (by omega), q2']; rfl
    · show hasB (allF (mF T n (T 0 34)) (T 12) 10 (nI a ||| nI j)) (nI t) = true
      rw [show nI a ||| nI j = nI a ||| nI i from b_ext (fun k hk => by rw [b_or, b_or, eb k hk]; cases bt (nI a) k <;> cases bt (nI i) k <;> rfl)]
      exact q3'
    · obtain ⟨x, y, g1, g2, g3, g4⟩ := bc_mono (x := j) (y := i) (by omega) (by omega) (fun k hk q => by rw [eb k hk] at q; exact (Bool.and_eq_true _ _ |>.mp q).1)
      rw [g3, g4]
      exact nI_le g1 (by omega)
  · exact Int32.not_le.mpr (bc_10 j hj)
theorem allF_sup {F : Int32 → Int32} {gv : Nat → Int32} {k : Nat} : ∀ (m : Nat) (x : Int32), bt x k = true → bt (allF F gv m x) k = true := by
  intro m
  induction m with
  | zero => intro x h; exact h
  | succ m ih =>
    intro x h
    rw [allF]
    by_cases e : F x = -1
    · rw [if_pos e]; exact h
    · rw [if_neg e]; exact ih _ (by rw [b_or, h]; rfl)
theorem bst_none {sk P : Nat → Bool} {z f : Int32} (h : ∀ i, P i = false) : ∀ (m i : Nat), bstF sk P m i z f = z := by
  intro m
  induction m with
  | zero => intro i; rfl
  | succ m ih =>
    intro i
    rw [bstF, h i, ih]
    by_cases c : sk i = true ∨ f ≤ bcI (nI i)
    · rw [if_pos c]
    · rw [if_neg c, if_neg (by decide)]
theorem toDeny_eq {a t : Nat} (h : Rq S T s n pp r bb) (ht : t < 10) : bstF (fun _ => false) (fun i => !hasB (allF (cF S (s + 2) n (S 17 4 ||| nI i)) (S (s + 5)) 10 (nI a)) (nI t)) (2 ^ n) 0 (-1) 13 = if hasB (nI a) (nI t) then -1 else bstM (fun i => !decide (nI i &&& T 0 34 = 0)) (fun i => !hasB (allF (mF T n (T 0 34 ||| nI i)) (T 12) 10 (nI a)) (nI t)) (2 ^ n) 0 (-1) := by
  have h12 : n ≤ 12 := h.2.2.2.1.2.1
  have hN : 2 ^ n ≤ 2 ^ 12 := Nat.pow_le_pow_right (by decide) h12
  rw [show (fun i => !hasB (allF (cF S (s + 2) n (S 17 4 ||| nI i)) (S (s + 5)) 10 (nI a)) (nI t)) = fun i => !hasB (allF (mF T n (T 0 34 ||| nI i)) (T 12) 10 (nI a)) (nI t) from by funext i; rw [h.dn, come_eq h]]
  by_cases c : hasB (nI a) (nI t) = true
  · rw [if_pos c]
    refine bst_none (fun i => ?_) _ _
    show (!hasB (allF (mF T n (T 0 34 ||| nI i)) (T 12) 10 (nI a)) (nI t)) = false
    rw [hasB_bt (by omega)] at c ⊢
    rw [allF_sup 10 _ c]; rfl
  · rw [if_neg c]
    refine bst_eq (N := 2 ^ n) (fun i hi q => by cases q) (fun i hi q1 q2 q3 => ?_) (2 ^ n) 0 (-1) 13 (by omega) (Or.inl ⟨rfl, fun j hj => ?_⟩) (fun j hj => by omega) (by omega)
    · have q1' : (!decide (nI i &&& T 0 34 = 0)) = true := q1
      have q3' : (!hasB (allF (mF T n (T 0 34 ||| nI i)) (T 12) 10 (nI a)) (nI t)) = true := q3
      have ne : ¬ nI i &&& T 0 34 = 0 := by intro e; rw [e] at q1'; cases q1'
      obtain ⟨j, hj, ej⟩ := and_in (a := i) (T 0 34 ^^^ -1)
      have eb : ∀ k, k < 32 → bt (nI j) k = (bt (nI i) k && !bt (T 0 34) k) := fun k hk => by rw [← ej, b_and, b_not _ hk]
      refine ⟨j, ?_, rfl, ?_, ?_⟩
      · rcases Nat.lt_or_ge j i with z | z
        · exact z
        · exfalso
          have : j = i := by omega
          subst this
          refine ne (b_ext (fun k hk => ?_))
          have := eb k hk
          rw [b_and, b_0]
          cases e1 : bt (nI j) k <;> cases e2 : bt (T 0 34) k <;> first | rfl | (rw [e1, e2] at this; cases this)
      · show (!hasB (allF (mF T n (T 0 34 ||| nI j)) (T 12) 10 (nI a)) (nI t)) = true
        rw [show T 0 34 ||| nI j = T 0 34 ||| nI i from b_ext (fun k hk => by rw [b_or, b_or, eb k hk]; cases bt (T 0 34) k <;> cases bt (nI i) k <;> rfl)]
        exact q3'
      · obtain ⟨x, y, g1, g2, g3, g4⟩ := bc_mono (x := j) (y := i) (by omega) (by omega) (fun k hk q => by rw [eb k hk] at q; exact (Bool.and_eq_true _ _ |>.mp q).1)
        rw [g3, g4]
        exact nI_le g1 (by omega)
    · obtain ⟨x, hx, e⟩ := bc_12 (x := j) (by omega)
      rw [e]
      exact Int32.not_le.mpr (nI_lt (b := 13) (by omega) (by decide))
theorem or_bit {x : Int32} {i : Nat} (hi : i < 32) (h : hasB x (nI i) = true) : x ||| 1 <<< (nI i &&& 31) = x := by
  refine b_ext (fun k hk => ?_)
  rw [b_or, b_shl1 hi hk]
  rw [hasB_bt hi] at h
  by_cases e : k = i
  · subst e; rw [h]; rfl
  · rw [decide_eq_false e, Bool.or_false]
theorem and_bit {x y : Int32} {t : Nat} (ht : t < 32) : (x &&& 1 <<< (nI t &&& 31) = y &&& 1 <<< (nI t &&& 31)) ↔ bt x t = bt y t := by
  constructor
  · intro e
    have := congrArg (fun z => bt z t) e
    simp only [b_and, b_shl1 ht ht, decide_true, Bool.and_true] at this
    exact this
  · intro e
    refine b_ext (fun k hk => ?_)
    rw [b_and, b_and, b_shl1 ht hk]
    by_cases ek : k = t
    · subst ek; rw [e]
    · rw [decide_eq_false ek, Bool.and_false, Bool.and_false]
theorem and_bit_d {x y : Int32} {t : Nat} (ht : t < 32) (hy : bt y t = true) : decide (x &&& 1 <<< (nI t &&& 31) = y &&& 1 <<< (nI t &&& 31)) = bt x t := by
  cases e : bt x t with
  | true => exact decide_eq_true ((and_bit ht).mpr (e.trans hy.symm))
  | false => exact decide_eq_false (fun q => by have := (and_bit ht).mp q; rw [e, hy] at this; cases this)
theorem needed_eq {a t : Nat} (h : Rq S T s n pp r bb) (ht : t < 10) : (if hasB (allF (cF S (s + 2) n (S 17 4)) (S (s + 5)) 10 (nI a)) (nI t) then colB (fun i => !hasB (allF (cF S (s + 2) n (S 17 4 ||| 1 <<< (nI i &&& 31))) (S (s + 5)) 10 (nI a)) (nI t)) n 0 0 else 0) = if hasB (allF (mF T n (T 0 34)) (T 12) 10 (nI a)) (nI t) then colB (fun i => !hasB (T 0 34) (nI i) && !decide (allF (mF T n (T 0 34 ||| 1 <<< (nI i &&& 31))) (T 12) 10 (nI a) &&& 1 <<< (nI t &&& 31) = allF (mF T n (T 0 34)) (T 12) 10 (nI a) &&& 1 <<< (nI t &&& 31))) n 0 0 else 0 := by
  have h12 : n ≤ 12 := h.2.2.2.1.2.1
  rw [h.dn, come_eq h]
  by_cases c : hasB (allF (mF T n (T 0 34)) (T 12) 10 (nI a)) (nI t) = true
  · rw [if_pos c, if_pos c]
    refine colB_congr n 0 0 (fun j _ hj => ?_)
    show (!hasB (allF (cF S (s + 2) n (T 0 34 ||| 1 <<< (nI j &&& 31))) (S (s + 5)) 10 (nI a)) (nI t)) = (!hasB (T 0 34) (nI j) && !decide (allF (mF T n (T 0 34 ||| 1 <<< (nI j &&& 31))) (T 12) 10 (nI a) &&& 1 <<< (nI t &&& 31) = allF (mF T n (T 0 34)) (T 12) 10 (nI a) &&& 1 <<< (nI t &&& 31)))
    rw [come_eq h]
    cases e : hasB (T 0 34) (nI j) with
    | true => rw [or_bit (by omega) e, c]; rfl
    | false =>
      rw [hasB_bt (by omega)] at c ⊢
      rw [and_bit_d (show t < 32 by omega) c]
      rfl
  · rw [if_neg c, if_neg c]
theorem and_1023 {c : Nat} (h : c < 1024) : nI c &&& (1023 : Int32) = nI c := by
  rw [show (1023 : Int32) = nI 1023 from rfl, nx_and]
  congr 1
  exact Nat.and_two_pow_sub_one_of_lt_two_pow (n := 10) h
theorem critical_eq {q : Nat} (h : Rq S T s n pp r bb) (hq : q < pp) : colB (fun i => !decide (allF (cF S (s + 2) n (S 17 4 ||| 1 <<< (nI i &&& 31))) (S (s + 5)) 10 (S 18 q ||| 1 <<< (S 19 q &&& 31)) = cThere S s 17 n q)) n 0 0 = colB (fun i => !hasB (T 0 34) (nI i) && !decide (allF (mF T n (T 0 34 ||| 1 <<< (nI i &&& 31))) (T 12) 10 (T 16 q ||| 1 <<< (T 17 q &&& 31)) &&& (1023 : Int32) = allF (mF T n (T 0 34)) (T 12) 10 (T 16 q ||| 1 <<< (T 17 q &&& 31)) &&& (1023 : Int32))) n 0 0 := by
  have h12 : n ≤ 12 := h.2.2.2.1.2.1
  have hg := h.2.2.2.1.2.2.1
  obtain ⟨⟨a, ha, ea⟩, t, ht, et⟩ := h.2.2.2.2 q hq
  rw [h.dn, (h.own hq).1, (h.own hq).2.1, (h.there hq).1]
  have e0 : T 16 q ||| 1 <<< (T 17 q &&& 31) = nI (a ||| 2 ^ t) := by rw [ea, et, or_shl ht]
  have in0 : ∀ dn, ∃ c, c < 1024 ∧ allF (mF T n dn) (T 12) 10 (T 16 q ||| 1 <<< (T 17 q &&& 31)) = nI c := fun dn => by rw [e0]; exact allF_in mF_or (by omega) hg 10 _ (or_lt ha ht)
  refine colB_congr n 0 0 (fun j _ hj => ?_)
  show (!decide (allF (cF S (s + 2) n (T 0 34 ||| 1 <<< (nI j &&& 31))) (S (s + 5)) 10 (T 16 q ||| 1 <<< (T 17 q &&& 31)) = mThere T n q)) = (!hasB (T 0 34) (nI j) && !decide (allF (mF T n (T 0 34 ||| 1 <<< (nI j &&& 31))) (T 12) 10 (T 16 q ||| 1 <<< (T 17 q &&& 31)) &&& (1023 : Int32) = allF (mF T n (T 0 34)) (T 12) 10 (T 16 q ||| 1 <<< (T 17 q &&& 31)) &&& (1023 : Int32)))
  rw [come_eq h]
  unfold mThere
  cases e : hasB (T 0 34) (nI j) with
  | true => rw [or_bit (by omega) e, decide_eq_true rfl]; rfl
  | false =>
    obtain ⟨c1, k1, g1⟩ := in0 (T 0 34 ||| 1 <<< (nI j &&& 31))
    obtain ⟨c2, k2, g2⟩ := in0 (T 0 34)
    rw [g1, g2, and_1023 k1, and_1023 k2]
    rfl
end R7
