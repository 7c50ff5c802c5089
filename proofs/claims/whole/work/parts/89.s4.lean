/-! ===== class: why, from its start ===== -/
section S4
variable {S T : Nat → Nat → Int32} {s n pp r bb a : Nat}
theorem rchF_congr {F : Nat → Int32} {gv gv' : Nat → Int32} {x : Int32} (hF : ∀ k, F k = -1 ∨ ∃ j, j < n ∧ F k = nI j) (hn : n < 2 ^ 31) (hg : ∀ i, i < n → gv i = gv' i) : ∀ (m : Nat) (o : Int32) (f : Nat → Int32), (o = -1 ∨ ∃ j, j < n ∧ o = nI j) → rchF F gv x m o f = rchF F gv' x m o f := by
  intro m
  induction m with
  | zero => intro o f _; rfl
  | succ m ih =>
    intro o f ho
    rw [rchF, rchF]
    rcases ho with e | ⟨j, j1, j2⟩
    · rw [if_pos e, if_pos e]
    · rw [if_neg (by rw [j2]; exact nI_m1 (by omega)), if_neg (by rw [j2]; exact nI_m1 (by omega)), j2, nI_clamp (by omega), hg j j1]
      exact ih _ _ (hF _)
theorem fewF_congr {F : Int32 → Nat → Int32} {gv gv' : Nat → Int32} {fr t : Int32} (hF : ∀ x k, F x k = -1 ∨ ∃ j, j < n ∧ F x k = nI j) (hn : n < 2 ^ 31) (hg : ∀ i, i < n → gv i = gv' i) : ∀ (m i : Nat) (z : Int32) (f : Nat → Int32), fewF F gv fr t m i z f = fewF F gv' fr t m i z f := by
  intro m
  induction m with
  | zero => intro i z f; rfl
  | succ m ih =>
    intro i z f
    rw [fewF, fewF, rchF_congr (hF (nI i)) hn hg 12 _ f (hF _ _), ih, ih]
theorem why_C {t : Nat} {f : Nat → Int32} (h : Rq S T s n pp r bb) (ha : a < 1024) (ht : t < 10) : Lst T n a t 1024 (fewF (cFf S (s + 2) n (S 17 4)) (S (s + 5)) (nI a) (nI t) (1024 - a) a (-1) (upd (fillR f 0 0 1024) a 1)).1 := by
  have h12 : n ≤ 12 := h.2.2.2.1.2.1
  have hg := h.2.2.2.1.2.2.1
  rw [h.dn, cFf_mFf h.2.1.1, fewF_congr (n := n) (gv' := T 12) (fun x k => mFf_or) (by omega) (fun i hi => (h.2.1.1 i hi).1.2.2.1)]
  refine few_Lst h12 hg ha ht (1024 - a) a (-1) _ (by omega) (fun y hy q => ?_) ?_ (fun x k j hx h1 _ _ => ?_) (Or.inl ⟨rfl, fun k y hy h1 => ?_⟩)
  · by_cases e : y = a
    · exact ⟨0, e⟩
    · exfalso
      rw [updN e] at q
      unfold fillR at q
      rw [if_pos ⟨by omega, hy⟩] at q
      exact q rfl
  · rw [updS]; decide
  · have := (RchN_in hg ha k x h1).2.1; omega
  · have := (RchN_in hg ha k y h1).2.1; omega
end S4
