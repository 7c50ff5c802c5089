/-! ===== class: why ===== -/
section S3
variable {T : Nat → Nat → Int32} {n a : Nat}
theorem Lst.skip {t i : Nat} {z : Int32} (h : Lst T n a t i z) (hn : ∀ k, RchN T n a k i → bt (nI i) t = false) : Lst T n a t (i + 1) z := by
  rcases h with ⟨h1, h2⟩ | ⟨k, h0, h1, ⟨y, y1, y2, y3⟩, h2⟩
  · refine Or.inl ⟨h1, fun k y hy r => ?_⟩
    by_cases e : y = i
    · subst e; exact hn k r
    · exact h2 k y (by omega) r
  · refine Or.inr ⟨k, h0, h1, ⟨y, by omega, y2, y3⟩, fun k' y' hy r q => ?_⟩
    by_cases e : y' = i
    · subst e; rw [hn k' r] at q; cases q
    · exact h2 k' y' (by omega) r q
theorem Lst.more {t i k : Nat} {z : Int32} (h : Lst T n a t i z) (hk : k ≤ 10) (hr : RchN T n a k i) (hu : ∀ k', RchN T n a k' i → k' = k) (ht : bt (nI i) t = true) : Lst T n a t (i + 1) (if z = -1 then nI k else mnI z (nI k)) := by
  rcases h with ⟨h1, h2⟩ | ⟨k0, h0, h1, ⟨y, y1, y2, y3⟩, h2⟩
  · rw [if_pos h1]
    refine Or.inr ⟨k, hk, rfl, ⟨i, by omega, hr, ht⟩, fun k' y' hy r q => ?_⟩
    by_cases e : y' = i
    · subst e; exact Nat.le_of_eq (hu k' r).symm
    · rw [h2 k' y' (by omega) r] at q; cases q
  · rw [if_neg (by rw [h1]; exact nI_m1 (by omega)), h1]
    unfold mnI
    rcases Nat.lt_or_ge k k0 with c | c
    · rw [if_pos (nI_lt c (by omega))]
      refine Or.inr ⟨k, hk, rfl, ⟨i, by omega, hr, ht⟩, fun k' y' hy r q => ?_⟩
      by_cases e : y' = i
      · subst e; exact Nat.le_of_eq (hu k' r).symm
      · have := h2 k' y' (by omega) r q; omega
    · rw [if_neg (nI_nlt c (by omega))]
      refine Or.inr ⟨k0, h0, rfl, ⟨y, by omega, y2, y3⟩, fun k' y' hy r q => ?_⟩
      by_cases e : y' = i
      · subst e; rw [hu k' r]; exact c
      · exact h2 k' y' (by omega) r q
theorem few_Lst {t : Nat} (h12 : n ≤ 12) (hg : GvOk (T 12) n) (ha : a < 1024) (ht : t < 10) : ∀ (m i : Nat) (z : Int32) (r : Nat → Int32), i + m = 1024 → (∀ y, y < 1024 → ¬ r y = 0 → ∃ k, RchN T n a k y) → ¬ r a = 0 → (∀ x k j, x < i → RchN T n a k x → j < n → mBr T x j = true → ¬ r (mTo T x j) = 0) → Lst T n a t i z → Lst T n a t 1024 (fewF (mFf T n (T 0 34)) (T 12) (nI a) (nI t) m i z r).1 := by
  intro m
  induction m with
  | zero => intro i z r hm _ _ _ h; rw [fewF]; rw [show i = 1024 by omega] at h; exact h
  | succ m ih =>
    intro i z r hm hM ha0 hC h
    have mk : ∀ k, RchN T n a k i → ¬ r i = 0 := by
      intro k hk
      cases k with
      | zero => have e : i = a := hk; rw [e]; exact ha0
      | succ k =>
        obtain ⟨x, j, h1, h2, h3, h4⟩ := hk
        have hx := (RchN_in hg ha k x h1).1
        have up := (mBr_up hg hx h2 h3).1
        rw [h4]
        exact hC x k j (by omega) h1 h2 h3
    rw [fewF]
    by_cases c : r i = 0
    · rw [if_pos c]
      refine ih (i + 1) z r (by omega) hM ha0 (fun x k j hx h1 h2 h3 => ?_) (h.skip (fun k hk => absurd c (mk k hk)))
      by_cases e : x = i
      · subst e; exact absurd c (mk k h1)
      · exact hC x k j (by omega) h1 h2 h3
    · rw [if_neg c]
      obtain ⟨k, hk⟩ := hM i (by omega) c
      have ki := RchN_in hg ha k i hk
      have m10 := (mis_0 a ha).2
      have hu : ∀ k', RchN T n a k' i → k' = k := fun k' h' => by have := RchN_in hg ha k' i h'; omega
      have rc := fun y => rch_iff (T := T) (n := n) (dn := T 0 34) (gv := T 12) (x := i) h12 12 0 r (by omega) y
      have bc : bcI (nI i) - bcI (nI a) = nI k := by
        rw [bc_mis i (by omega), bc_mis a ha, show 10 - mis i = k + (10 - mis a) by omega, ← nI_add, Int32.add_sub_cancel]
      refine ih (i + 1) _ _ (by omega) (fun y hy q => ?_) ((rc a).mpr (Or.inl ha0)) (fun x k' j hx h1 h2 h3 => ?_) ?_
      · rcases (rc y).mp q with q | ⟨j, -, j2, j3, j4⟩
        · exact hM y hy q
        · exact ⟨k + 1, i, j, hk, j2, j3, j4⟩
      · by_cases e : x = i
        · subst e
          exact (rc _).mpr (Or.inr ⟨j, by omega, h2, h3, rfl⟩)
        · exact (rc _).mpr (Or.inl (hC x k' j (by omega) h1 h2 h3))
      · rw [bc, hasB_bt (by omega)]
        cases e : bt (nI i) t with
        | true => rw [if_pos rfl]; exact h.more (by omega) hk hu e
        | false => rw [if_neg (show ¬ false = true by decide)]; exact h.skip (fun _ _ => e)
end S3
