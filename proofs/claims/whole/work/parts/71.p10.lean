/-! ===== both readers side by side: what lines tell ===== -/
section P10
variable {G : xG} {d : Nat} {b : Nat} {S S' S1 S2 S3 T T' T1 T2 T3 U W Z : Nat → Nat → Int32} {h0 h : xH} {t w : Nat}
theorem RD_T {dn : Nat} (h : RD S W t dn) (h1 : ∀ k, k ≠ 0 → T k = W k) (h2 : T 0 26 = W 0 26) : RD S T t dn := by
  unfold RD at h ⊢
  rw [h1 3 (by decide), h1 4 (by decide), h1 5 (by decide), h1 6 (by decide), h1 7 (by decide), h1 8 (by decide), h1 9 (by decide), h1 10 (by decide), h1 11 (by decide), h1 12 (by decide), h1 13 (by decide), h2]
  exact h
theorem RD_S {dn : Nat} (h : RD S T t dn) (h1 : ∀ k, k ≠ 1 → k ≠ 2 → S' k = S k) : RD S' T t dn := by
  obtain ⟨pp, n, r, ht, h2⟩ := h
  refine ⟨pp, n, r, ht, ?_⟩
  rw [h1 t (by omega) (by omega), h1 (t + 1) (by omega) (by omega), h1 (t + 2) (by omega) (by omega), h1 (t + 3) (by omega) (by omega), h1 (t + 4) (by omega) (by omega), h1 (t + 5) (by omega) (by omega), h1 (t + 6) (by omega) (by omega), h1 (t + 7) (by omega) (by omega), h1 (t + 9) (by omega) (by omega), h1 (t + 10) (by omega) (by omega), h1 (t + 11) (by omega) (by omega), h1 (t + 12) (by omega) (by omega)]
  exact h2
/-- an IF more -/
def ifM (T : Nat → Nat → Int32) (n : Nat) (x y z u : Int32) : Nat → Nat → Int32 := up2 (up2 (up2 (up2 (up2 T 9 (12 + n) u) 10 (12 + n) x) 11 (12 + n) y) 12 (12 + n) z) 3 5 (nI (n + 1))
theorem RD_if {dn n g : Nat} {x y u : Int32} (h : RD S T t dn) (hn : S (t + 2) 4 = nI n) (h12 : n < 12) (hg : g < 10) (hu : u = 0 ∨ u = 1) : RD (ifsAdd S (t + 2) n x y (nI g) u) (ifM T n x y (nI g) u) t dn := by
  obtain ⟨pp, n', r, ht, h1, h2, h3, h4, h5, h6, h7, h8⟩ := h
  have en : n' = n := (nI_eq (by omega) (by omega)).mp (h2.1.symm.trans hn)
  subst en
  unfold ifsAdd ifM
  refine ⟨pp, n' + 1, r, ht, ?_, ?_, ?_, ?_, ?_, ?_, ?_, ?_⟩
  · simp (disch := omega) only [up2_row, up2_col]; exact h1
  · refine ⟨by rw [up2_same, nI_1], by rw [up2_same], by omega, ?_⟩
    rw [up2_col (by decide), up2_same]
    intro j h1' h2'
    have hlo := h2.2.2.2 j (by omega) h2'
    rcases hu with q | q
    · subst q; rw [if_pos rfl, Int32.or_zero]; exact hlo
    · subst q; rw [if_neg (by decide), b_or, hlo, b_shl1 (by omega) h2', decide_eq_false (by omega)]; rfl
  · simp (disch := omega) only [up2_row, up2_col]; exact h3
  · simp (disch := omega) only [up2_row, up2_col]; exact h4
  · simp (disch := omega) only [up2_row, up2_col]; exact h5
  · intro q hq
    simp (disch := omega) only [up2_row, up2_col]; exact h6 q hq
  · intro i hi
    by_cases e : i = n'
    · subst e
      simp (disch := omega) only [up2_row, up2_col, up2_same]
      refine ⟨⟨trivial, trivial, trivial, ?_⟩, g, hg, rfl⟩
      have hlo : hasB (S (t + 2) 3) (nI i) = false := by rw [hasB_bt (by omega)]; exact h2.2.2.2 i (by omega) (by omega)
      rcases hu with q | q
      · subst q; rw [if_pos rfl, Int32.or_zero, hlo]; rfl
      · subst q; rw [if_neg (by decide), hasB_or1 (by omega) (by omega), hlo]; simp [b2i]
    · simp (disch := omega) only [up2_row, up2_col, up2_same]
      obtain ⟨⟨q1, q2, q3, q4⟩, q5⟩ := h7 i (by omega)
      refine ⟨⟨q1, q2, q3, ?_⟩, q5⟩
      rw [q4]
      rcases hu with q | q
      · subst q; rw [if_pos rfl, Int32.or_zero]
      · subst q; rw [if_neg (by decide), hasB_or1 (by omega) (by omega), decide_eq_false (show ¬ i = n' by omega), Bool.or_false]
  · simp (disch := omega) only [up2_row, up2_col]; exact h8
/-- a person more -/
def peM (T : Nat → Nat → Int32) (n : Nat) (x y z u : Int32) : Nat → Nat → Int32 := up2 (up2 (up2 (up2 (up2 T 5 (8 + n) x) 6 (8 + n) y) 7 (8 + n) z) 8 (8 + n) u) 3 4 (nI (n + 1))
theorem RD_pe {dn n x y z u : Nat} (h : RD S T t dn) (hn : S t 7 = nI n) (h8 : n < 8) (hx : x < 1024) (hy : y < 10) (hz : z < 10) (hu : u < 100) : RD (shAdd S t n (nI x) (nI y) (nI z) (nI u)) (peM T n (nI x) (nI y) (nI z) (nI u)) t dn := by
  obtain ⟨pp, n', r, ht, h1, h2, h3, h4, h5, h6, h7, h8'⟩ := h
  have en : pp = n := (nI_eq (by omega) (by omega)).mp (h1.1.symm.trans hn)
  subst en
  unfold shAdd peM
  refine ⟨pp + 1, n', r, ht, ?_, ?_, ?_, ?_, ?_, ?_, ?_, ?_⟩
  · refine ⟨by rw [up2_same, nI_1], by rw [up2_same], by omega⟩
  · simp (disch := omega) only [up2_row, up2_col]; exact h2
  · simp (disch := omega) only [up2_row, up2_col]; exact h3
  · simp (disch := omega) only [up2_row, up2_col]; exact h4
  · simp (disch := omega) only [up2_row, up2_col]; exact h5
  · intro q hq
    by_cases e : q = pp
    · subst e
      simp (disch := omega) only [up2_row, up2_col, up2_same]
      exact ⟨⟨trivial, trivial, trivial, trivial⟩, ⟨x, hx, rfl⟩, ⟨y, hy, rfl⟩, ⟨z, hz, rfl⟩, u, hu, rfl⟩
    · simp (disch := omega) only [up2_row, up2_col, up2_same]
      exact h6 q (by omega)
  · simp (disch := omega) only [up2_row, up2_col]; exact h7
  · simp (disch := omega) only [up2_row, up2_col]; exact h8'
/-- a worth -/
def woM (T : Nat → Nat → Int32) (q : Nat) (x : Int32) : Nat → Nat → Int32 := up2 (up2 T 0 26 (T 0 26 ||| 1 <<< (nI q &&& 31))) 4 (10 + q) x
theorem RD_wo {dn q : Nat} {x : Int32} (h : RD S T t dn) (hq : q < 10) : RD (twS S t (nI q) x) (woM T q x) t dn := by
  obtain ⟨pp, n', r, ht, h1, h2, h3, h4, h5, h6, h7, h8'⟩ := h
  unfold twS woM
  rw [nI_clamp (by omega)]
  refine ⟨pp, n', r, ht, ?_, ?_, ?_, ?_, ?_, ?_, ?_, ?_⟩
  · simp (disch := omega) only [up2_row, up2_col]; exact h1
  · simp (disch := omega) only [up2_row, up2_col]; exact h2
  · simp (disch := omega) only [up2_row, up2_col]; exact h3
  · simp (disch := omega) only [up2_row, up2_col]; exact h4
  · refine ⟨fun i hi => ?_, ?_⟩
    · by_cases e : i = q
      · subst e; simp (disch := omega) only [up2_row, up2_col, up2_same]
      · simp (disch := omega) only [up2_row, up2_col, up2_same]; exact h5.1 i hi
    · simp (disch := omega) only [up2_row, up2_col, up2_same]; rw [h5.2]
  · simp (disch := omega) only [up2_row, up2_col]; exact h6
  · simp (disch := omega) only [up2_row, up2_col]; exact h7
  · simp (disch := omega) only [up2_row, up2_col]; exact h8'
/-- the bridge -/
theorem RD_br {dn v : Nat} (h : RD S T t dn) (hd : dn % 2 = 0) (h1' : 1 ≤ v) (h8 : v ≤ 8) : RD (up2 (up2 S t 9 (nI v)) t 10 1) (up2 T 3 6 (nI v)) t (dn + 1) := by
  obtain ⟨pp, n', r, ht, h1, h2, h3, h4, h5, h6, h7, h8'⟩ := h
  refine ⟨pp, n', r, ht, ?_, ?_, ?_, ?_, ?_, ?_, ?_, ?_⟩
  · simp (disch := omega) only [up2_row, up2_col]; exact h1
  · simp (disch := omega) only [up2_row, up2_col]; exact h2
  · simp (disch := omega) only [up2_row, up2_col, up2_same]; exact ⟨trivial, v, h1', h8, rfl⟩
  · simp (disch := omega) only [up2_row, up2_col]; exact h4
  · simp (disch := omega) only [up2_row, up2_col]; exact h5
  · simp (disch := omega) only [up2_row, up2_col]; exact h6
  · simp (disch := omega) only [up2_row, up2_col]; exact h7
  · obtain ⟨k1, k2, k3⟩ := h8'
    refine ⟨by rw [up2_same, show (dn + 1) % 2 = 1 by omega]; rfl, by omega, ?_⟩
    rw [show (dn + 1) / 2 = dn / 2 by omega]
    exact k3
end P10
