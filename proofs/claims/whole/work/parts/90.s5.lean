/-! ===== model: why ===== -/
section S5
variable {S T : Nat → Nat → Int32} {s n pp r bb a : Nat}
/-- while the set s is gone on from, up to the i-th conditional; x0 is how it stood before -/
def WJ (T : Nat → Nat → Int32) (n a s i : Nat) (x0 x : xWh) : Prop :=
  WhI x ∧ (∀ y, y < 1024 → ¬ x.1 y = -1 → (∃ k, RchN T n a k y ∧ x.1 y = nI k) ∧ ∃ e, e < x.2.2 ∧ x.2.1 e = nI y) ∧
  (∀ e e', e ≤ e' → e' < x.2.2 → mis (x.2.1 e').toNatClampNeg ≤ mis (x.2.1 e).toNatClampNeg) ∧ (∀ e, e < x.2.2 → mis s ≤ mis (x.2.1 e).toNatClampNeg + 1) ∧
  (x0.2.2 ≤ x.2.2 ∧ (∀ e, e < x0.2.2 → x.2.1 e = x0.2.1 e) ∧ ∀ y, ¬ x0.1 y = -1 → ¬ x.1 y = -1) ∧ ∀ i', i' < i → mBr T s i' = true → ¬ x.1 (mTo T s i') = -1
theorem WJ_go {x0 : xWh} (hg : GvOk (T 12) n) (hs : s < 1024) (hs0 : ¬ x0.1 s = -1) : ∀ (m i : Nat) (x : xWh), m + i = n → WJ T n a s i x0 x → WJ T n a s n x0 (whI (mBr T s) (mTo T s) s m i x) := by
  intro m
  induction m with
  | zero => intro i x hm h; rw [show i = n by omega] at h; exact h
  | succ m ih =>
    intro i x hm h
    obtain ⟨h1, h2, h3, h4, ⟨h5, h6, h7⟩, h8⟩ := h
    rw [whI]
    split
    · next q =>
      obtain ⟨q1, q2⟩ := q
      obtain ⟨u1, u2, u3⟩ := mBr_up hg hs (show i < n by omega) q1
      have hsx := h7 s hs0
      obtain ⟨k1, k2⟩ := WhI_put h1 hs hsx u2 q2
      obtain ⟨⟨k, r1, r2⟩, -⟩ := h2 s hs hsx
      have hne : ¬ x.1 s + 1 = -1 := by
        have := k2.2.1 x.2.2 (Nat.lt_succ_self _)
        obtain ⟨s', b1, b2, b3⟩ := this
        intro q
        have e2 : nI (mTo T s i) = nI s' := by rw [← b2]; exact updS.symm
        have e3 : mTo T s i = s' := (nI_eq (by omega) (by omega)).mp e2
        apply b3
        show upd x.1 (mTo T s i) (x.1 s + 1) s' = -1
        rw [← e3, updS]; exact q
      have mk : ∀ y, ¬ x.1 y = -1 → ¬ upd x.1 (mTo T s i) (x.1 s + 1) y = -1 := fun y hy => by
        by_cases e : y = mTo T s i
        · subst e; rw [updS]; exact hne
        · rw [updN e]; exact hy
      have cl : (nI (mTo T s i)).toNatClampNeg = mTo T s i := nI_clamp (by omega)
      refine ih (i + 1) (upd x.1 (mTo T s i) (x.1 s + 1), upd x.2.1 x.2.2 (nI (mTo T s i)), x.2.2 + 1) (by omega) ⟨k2, fun y hy hy1 => ?_, fun e e' hee he => ?_, fun e he => ?_, ⟨Nat.le_succ_of_le h5, fun e he => ?_, fun y hy => mk y (h7 y hy)⟩, fun i' hi' hb => ?_⟩
      · by_cases e : y = mTo T s i
        · subst e
          refine ⟨⟨k + 1, ⟨s, i, r1, by omega, q1, rfl⟩, ?_⟩, x.2.2, Nat.lt_succ_self _, updS⟩
          show upd x.1 (mTo T s i) (x.1 s + 1) (mTo T s i) = _
          rw [updS, r2, nI_1]
        · have hy2 : ¬ x.1 y = -1 := by
            have hy1 : ¬ upd x.1 (mTo T s i) (x.1 s + 1) y = -1 := hy1
            rwa [updN e] at hy1
          obtain ⟨⟨k', a1, a2⟩, e', a3, a4⟩ := h2 y hy hy2
          refine ⟨⟨k', a1, ?_⟩, e', Nat.lt_succ_of_lt a3, ?_⟩
          · show upd x.1 (mTo T s i) (x.1 s + 1) y = _
            rw [updN e, a2]
          · show upd x.2.1 x.2.2 (nI (mTo T s i)) e' = _
            rw [updN (by omega), a4]
      · have he : e' < x.2.2 + 1 := he
        show mis (upd x.2.1 x.2.2 (nI (mTo T s i)) e').toNatClampNeg ≤ mis (upd x.2.1 x.2.2 (nI (mTo T s i)) e).toNatClampNeg
        by_cases z : e' = x.2.2
        · subst z
          rw [updS, cl]
          by_cases z2 : e = x.2.2
          · rw [z2, updS, cl]; exact Nat.le_refl _
          · rw [updN z2]
            have := h4 e (by omega)
            omega
        · rw [updN z, updN (by omega)]
          exact h3 e e' hee (by omega)
      · have he : e < x.2.2 + 1 := he
        show mis s ≤ mis (upd x.2.1 x.2.2 (nI (mTo T s i)) e).toNatClampNeg + 1
        by_cases z : e = x.2.2
        · subst z
          rw [updS, cl]; omega
        · rw [updN z]
          exact h4 e (by omega)
      · show upd x.2.1 x.2.2 (nI (mTo T s i)) e = _
        rw [updN (by omega)]
        exact h6 e he
      · by_cases z : i' = i
        · subst z
          show ¬ upd x.1 (mTo T s i') (x.1 s + 1) (mTo T s i') = -1
          rw [updS]; exact hne
        · exact mk _ (h8 i' (by omega) hb)
    · next q =>
      refine ih (i + 1) x (by omega) ⟨h1, h2, h3, h4, ⟨h5, h6, h7⟩, fun i' hi' hb => ?_⟩
      by_cases z : i' = i
      · subst z; exact fun w => q ⟨hb, w⟩
      · exact h8 i' (by omega) hb
/-- the queue, the j-th being the next -/
def WQ (T : Nat → Nat → Int32) (n a t j : Nat) (x : xWh) : Prop :=
  WhI x ∧ (∀ y, y < 1024 → ¬ x.1 y = -1 → (∃ k, RchN T n a k y ∧ x.1 y = nI k) ∧ ∃ e, e < x.2.2 ∧ x.2.1 e = nI y) ∧
  (∀ e e', e ≤ e' → e' < x.2.2 → mis (x.2.1 e').toNatClampNeg ≤ mis (x.2.1 e).toNatClampNeg) ∧ (j < x.2.2 → ∀ e, e < x.2.2 → mis (x.2.1 j).toNatClampNeg ≤ mis (x.2.1 e).toNatClampNeg + 1) ∧
  ¬ x.1 a = -1 ∧ (∀ e, e < j → bt (x.2.1 e) t = false ∧ ∀ i, i < n → mBr T (x.2.1 e).toNatClampNeg i = true → ¬ x.1 (mTo T (x.2.1 e).toNatClampNeg i) = -1) ∧ j ≤ x.2.2
/-- what is reached is behind the j-th, or something as near is still to come -/
theorem WQ_cut {t j : Nat} {x : xWh} (hg : GvOk (T 12) n) (ha : a < 1024) (h : WQ T n a t j x) : ∀ (k y : Nat), RchN T n a k y → (∃ e, e < j ∧ x.2.1 e = nI y) ∨ ∃ e, j ≤ e ∧ e < x.2.2 ∧ mis a ≤ mis (x.2.1 e).toNatClampNeg + k := by
  obtain ⟨h1, h2, h3, h4, h5, h6, h7⟩ := h
  have st : ∀ k y, RchN T n a k y → ¬ x.1 y = -1 → (∃ e, e < j ∧ x.2.1 e = nI y) ∨ ∃ e, j ≤ e ∧ e < x.2.2 ∧ mis a ≤ mis (x.2.1 e).toNatClampNeg + k := by
    intro k y hr hm
    have hi := RchN_in hg ha k y hr
    obtain ⟨-, e, e1, e2⟩ := h2 y hi.1 hm
    rcases Nat.lt_or_ge e j with z | z
    · exact Or.inl ⟨e, z, e2⟩
    · refine Or.inr ⟨e, z, e1, ?_⟩
      rw [e2, nI_clamp (by omega)]
      omega
  intro k
  induction k with
  | zero => intro y hr; have e : y = a := hr; exact st 0 y hr (by rw [e]; exact h5)
  | succ k ih =>
    intro y hr
    have hr' := hr
    obtain ⟨x', i, r1, r2, r3, r4⟩ := hr'
    rcases ih x' r1 with ⟨e, e1, e2⟩ | ⟨e, e1, e2, e3⟩
    · have hx := (RchN_in hg ha k x' r1).1
      refine st (k + 1) y hr ?_
      have := (h6 e e1).2 i r2
      rw [e2, nI_clamp (by omega)] at this
      rw [r4]
      exact this r3
    · exact Or.inr ⟨e, e1, e2, by omega⟩
theorem wh_Lst {t : Nat} (hg : GvOk (T 12) n) (ha : a < 1024) (ht : t < 10) : ∀ (m j : Nat) (x : xWh), m + j = 1025 → WQ T n a t j x → Lst T n a t 1024 (whO T n (nI t) m j x).1 := by
  intro m
  induction m with
  | zero =>
    intro j x hm h
    exfalso
    have := h.2.2.2.2.2.2
    have h1 := h.1.1
    have := cN_le (f := x.1) 1024
    omega
  | succ m ih =>
    intro j x hm h
    have hc := WQ_cut hg ha h
    obtain ⟨h1, h2, h3, h4, h5, h6, h7⟩ := h
    rw [whO]
    by_cases c : j < x.2.2
    · rw [if_pos c]
      obtain ⟨s, s1, s2, s3⟩ := h1.2.1 j c
      have cl : (x.2.1 j).toNatClampNeg = s := by rw [s2]; exact nI_clamp (by omega)
      obtain ⟨⟨k, r1, r2⟩, -⟩ := h2 s s1 s3
      have ki := RchN_in hg ha k s r1
      have m10 := (mis_0 a ha).2
      rw [s2, hasB_bt (by omega)]
      rw [s2] at cl
      cases e : bt (nI s) t with
      | true =>
        rw [if_pos rfl, cl]
        refine Or.inr ⟨k, by omega, r2, ⟨s, s1, r1, e⟩, fun k' y hy hr hb => ?_⟩
        rcases hc k' y hr with ⟨e', e1, e2⟩ | ⟨e', e1, e2, e3⟩
        · have := (h6 e' e1).1
          rw [e2, hb] at this; cases this
        · have := h3 j e' e1 e2
          rw [s2, cl] at this
          omega
      | false =>
        rw [if_neg (show ¬ false = true by decide), cl]
        have wj := WJ_go (T := T) (a := a) hg s1 s3 n 0 x (by omega) ⟨h1, h2, h3, fun e' he' => by have := h4 c e' he'; rwa [s2, cl] at this, ⟨Nat.le_refl _, fun _ _ => rfl, fun _ q => q⟩, fun i' hi' => by omega⟩
        generalize whI (mBr T s) (mTo T s) s n 0 x = x' at wj ⊢
        obtain ⟨g1, g2, g3, g4, ⟨g5, g6, g7⟩, g8⟩ := wj
        refine ih (j + 1) x' (by omega) ⟨g1, g2, g3, fun hj e' he' => ?_, g7 a h5, fun e' he' => ?_, by omega⟩
        · have a1 := g3 j (j + 1) (by omega) hj
          have a2 := g4 e' he'
          rw [g6 j c, s2, cl] at a1
          omega
        · by_cases z : e' = j
          · subst z
            rw [g6 e' c, s2, cl]
            exact ⟨e, g8⟩
          · obtain ⟨b1, b2⟩ := h6 e' (by omega)
            rw [g6 e' (by omega)]
            exact ⟨b1, fun i hi hb => g7 _ (b2 i hi hb)⟩
    · rw [if_neg c]
      refine Or.inl ⟨rfl, fun k y hy hr => ?_⟩
      rcases hc k y hr with ⟨e', e1, e2⟩ | ⟨e', e1, e2, e3⟩
      · have := (h6 e' e1).1
        rwa [e2] at this
      · omega
theorem why_M {t : Nat} {f g : Nat → Int32} (hg : GvOk (T 12) n) (ha : a < 1024) (ht : t < 10) : Lst T n a t 1024 (whO T n (nI t) 1025 0 (upd (fillR f (-1) 0 1024) a 0, upd g 0 (nI a), 1)).1 := by
  have fl : ∀ y, y < 1024 → y ≠ a → upd (fillR f (-1) 0 1024) a 0 y = -1 := fun y hy hn => by
    rw [updN hn]
    unfold fillR
    rw [if_pos ⟨by omega, hy⟩]
  have cl : (nI a).toNatClampNeg = a := nI_clamp (by omega)
  refine wh_Lst hg ha ht 1025 0 _ (by omega) ⟨⟨?_, fun j hj => ?_, fun j hj => ?_⟩, fun y hy q => ?_, fun e e' hee he => ?_, fun hj e he => ?_, ?_, fun e he => by omega, Nat.zero_le _⟩
  · show 1 = cN (upd (fillR f (-1) 0 1024) a 0) 1024
    have e0 : fillR f (-1) 0 1024 a = -1 := by unfold fillR; rw [if_pos ⟨by omega, ha⟩]
    rw [cN_upd e0 (by decide) 1024 ha, cN_0 1024 (fun j hj => by unfold fillR; rw [if_pos ⟨by omega, hj⟩])]
  · have hj : j < 1 := hj
    refine ⟨a, ha, ?_, ?_⟩
    · show upd g 0 (nI a) j = _
      rw [show j = 0 by omega, updS]
    · show ¬ upd (fillR f (-1) 0 1024) a 0 a = -1
      rw [updS]; decide
  · by_cases e : j = a
    · subst e
      exact Or.inr ⟨0, Nat.one_pos, updS⟩
    · exact Or.inl (fl j hj e)
  · by_cases e : y = a
    · subst e
      exact ⟨⟨0, rfl, updS⟩, 0, Nat.one_pos, show upd g 0 (nI y) 0 = nI y from updS⟩
    · exact absurd (fl y hy e) q
  · have he : e' < 1 := he
    rw [show e = e' by omega]; exact Nat.le_refl _
  · have he : e < 1 := he
    rw [show e = 0 by omega]; exact Nat.le_succ _
  · show ¬ upd (fillR f (-1) 0 1024) a 0 a = -1
    rw [updS]; decide
theorem why_eq {t : Nat} {f f' g : Nat → Int32} (h : Rq S T s n pp r bb) (ha : a < 1024) (ht : t < 10) : (fewF (cFf S (s + 2) n (S 17 4)) (S (s + 5)) (nI a) (nI t) (1024 - a) a (-1) (upd (fillR f 0 0 1024) a 1)).1 = (whO T n (nI t) 1025 0 (upd (fillR f' (-1) 0 1024) a 0, upd g 0 (nI a), 1)).1 :=
  Lst_uniq (why_C h ha ht) (why_M h.2.2.2.1.2.2.1 ha ht)
end S5
