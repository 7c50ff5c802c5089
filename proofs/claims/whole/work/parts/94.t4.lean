/-! ===== acts: a ring beside rows that are shifted ===== -/
section T4
variable {S T S' T' U : Nat → Nat → Int32} {s t n pp r bb o na ns z : Nat}
theorem cpy_off {f g : Nat → Int32} {sp dp m j : Nat} (h : j < dp ∨ dp + m ≤ j) : va_cpy f g sp dp m j = g j := by
  unfold va_cpy
  rw [if_neg (by omega)]
/-- a state as it is written into a row -/
theorem stWr_r {k r a : Nat} : stWr S k r a r = upd (upd (upd (upd (va_cpy (S (k + 4)) (va_cpy (S (k + 3)) (va_cpy (S (k + 2)) (va_cpy (S (k + 1)) (S r) 0 a 8) 0 (a + 8) 8) 0 (a + 16) 8) 0 (a + 24) 8) (a + 32) (S k 4)) (a + 33) (S k 5)) (a + 34) (S k 6)) (a + 35) (S k 7) := by
  simp only [stWr, up2, upR_same]
theorem stWr_b {k r a : Nat} : stWr S k r a r (a + 32) = S k 4 ∧ stWr S k r a r (a + 33) = S k 5 ∧ stWr S k r a r (a + 34) = S k 6 ∧ stWr S k r a r (a + 35) = S k 7 := by
  rw [stWr_r]
  refine ⟨?_, ?_, ?_, ?_⟩
  · rw [updN (by omega), updN (by omega), updN (by omega), updS]
  · rw [updN (by omega), updN (by omega), updS]
  · rw [updN (by omega), updS]
  · rw [updS]
theorem stWr_in {k r a q : Nat} (hq : q < 8) : stWr S k r a r (a + q) = S (k + 1) q ∧ stWr S k r a r (a + 8 + q) = S (k + 2) q ∧ stWr S k r a r (a + 16 + q) = S (k + 3) q ∧ stWr S k r a r (a + 24 + q) = S (k + 4) q := by
  rw [stWr_r]
  refine ⟨?_, ?_, ?_, ?_⟩
  · rw [updN (by omega), updN (by omega), updN (by omega), updN (by omega), cpy_off (by omega), cpy_off (by omega), cpy_off (by omega), cpy_at hq, Nat.zero_add]
  · rw [updN (by omega), updN (by omega), updN (by omega), updN (by omega), cpy_off (by omega), cpy_off (by omega), cpy_at hq, Nat.zero_add]
  · rw [updN (by omega), updN (by omega), updN (by omega), updN (by omega), cpy_off (by omega), cpy_at hq, Nat.zero_add]
  · rw [updN (by omega), updN (by omega), updN (by omega), updN (by omega), cpy_at hq, Nat.zero_add]
theorem stWr_out {k r a j : Nat} (h : j < a ∨ a + 36 ≤ j) : stWr S k r a r j = S r j := by
  rw [stWr_r, updN (by omega), updN (by omega), updN (by omega), updN (by omega), cpy_off (by omega), cpy_off (by omega), cpy_off (by omega), cpy_off (by omega)]
theorem shL_in : ∀ (m k : Nat) (f : Nat → Int32) (j : Nat), 36 ≤ k → shL m k f j = if k - 36 ≤ j ∧ j < k - 36 + m then f (j + 36) else f j := by
  intro m
  induction m with
  | zero => intro k f j _; rw [shL, if_neg (by omega)]
  | succ m ih =>
    intro k f j hk
    rw [shL, ih (k + 1) _ j (by omega)]
    by_cases c : k - 36 ≤ j ∧ j < k - 36 + (m + 1)
    · rw [if_pos c]
      by_cases e : j = k - 36
      · rw [if_neg (by omega), e, updS, show k - 36 + 36 = k by omega]
      · rw [if_pos (by omega), updN (by omega)]
    · rw [if_neg c, if_neg (by omega), updN (by omega)]
theorem RW.congr {f g f' g' : Nat → Int32} {a c a' c' : Nat} (h : RW pp f a g c) (h8 : pp ≤ 8) (ef : ∀ j, j < 36 → f' (a' + j) = f (a + j)) (eg : ∀ j, j < 36 → g' (c' + j) = g (c + j)) : RW pp f' a' g' c' := by
  obtain ⟨⟨h1, h2, h3, h4, v, hv, h5⟩, h6⟩ := h
  have e0 : g' c' = g c := eg 0 (by decide)
  refine ⟨⟨?_, ?_, ?_, ?_, v, hv, ?_⟩, fun q hq => ?_⟩
  · rw [e0, ef 34 (by decide)]; exact h1
  · rw [eg 1 (by decide), ef 35 (by decide)]; exact h2
  · rw [eg 2 (by decide), ef 32 (by decide)]; exact h3
  · rw [eg 3 (by decide), ef 33 (by decide)]; exact h4
  · rw [ef 33 (by decide)]; exact h5
  · obtain ⟨⟨a1, a2, a3, a4⟩, a5, a6⟩ := h6 q hq
    have f8 : ∀ x, x + q < 36 → f' (a' + x + q) = f (a + x + q) := fun x hx => by rw [Nat.add_assoc, Nat.add_assoc]; exact ef _ hx
    have g8 : ∀ x, x + q < 36 → g' (c' + x + q) = g (c + x + q) := fun x hx => by rw [Nat.add_assoc, Nat.add_assoc]; exact eg _ hx
    rw [g8 4 (by omega), g8 (4 + 8) (by omega), g8 (4 + 16) (by omega), g8 (4 + 24) (by omega), ef q (by omega), f8 8 (by omega), f8 16 (by omega), f8 24 (by omega)]
    exact ⟨⟨a1, a2, a3, a4⟩, a5, a6⟩
/-- the state that stands is kept on both sides -/
theorem RW.new {a c : Nat} {f : Nat → Int32} (h8 : pp ≤ 8) (lv : LV S T 17 pp) (po : PO T pp) (b1 : S 17 5 = nI bb) (b2 : T 0 35 = nI bb) (b8 : bb ≤ 8) : RW pp (stWr S 17 23 a 23) a (pkR T c f) c := by
  obtain ⟨⟨l1, l2, l3⟩, l4⟩ := lv
  obtain ⟨w1, w2, w3, w4⟩ := stWr_b (S := S) (k := 17) (r := 23) (a := a)
  obtain ⟨p1, p2, p3, p4⟩ := pkR_b (S := T) (a := c) (f := f)
  refine ⟨⟨?_, ?_, ?_, ?_, bb, b8, ?_⟩, fun q hq => ?_⟩
  · rw [p1, w3]; exact l1
  · rw [p2, w4]; exact l2
  · rw [p3, w1]; exact l3
  · rw [p4, w2, b1, b2]
  · rw [w2, b1]
  · have q8 : q < 8 := by omega
    obtain ⟨i1, i2, i3, i4⟩ := stWr_in (S := S) (k := 17) (r := 23) (a := a) q8
    obtain ⟨k1, k2, k3, k4⟩ := pkR_in (S := T) (a := c) (f := f) q8
    obtain ⟨m1, m2, m3, m4⟩ := l4 q hq
    obtain ⟨⟨x, x1, x2⟩, y, y1, y2⟩ := po q hq
    rw [i1, i2, i3, i4, k1, k2, k3, k4]
    exact ⟨⟨m1, m2, m3, m4⟩, ⟨x, x1, m1.symm.trans x2⟩, y, y1, m2.symm.trans y2⟩
theorem actKeep_23 : actKeep S 22 17 o na 23 = stWr S 17 23 ((o + na) % 40 * 36) 23 := by
  unfold actKeep
  split <;> rw [up2_row (by decide)]
theorem mKeep_20 : mKeep T na 20 = mKeepR T na := by
  unfold mKeep
  rw [up2_row (by decide), upR_same]
theorem keep_AC (h8 : pp ≤ 8) (lv : LV S T 17 pp) (po : PO T pp) (b1 : S 17 5 = nI bb) (b2 : T 0 35 = nI bb) (b8 : bb ≤ 8) (ac : AC pp S 22 o na (T 20)) : ∃ o' na', AC pp (actKeep S 22 17 o na) 22 o' na' (mKeep T na 20) ∧ mKeep T na 0 36 = nI na' := by
  obtain ⟨a1, a2, a3, a4, a5⟩ := ac
  have e36 : mKeep T na 0 36 = nI (if na < 40 then na + 1 else 40) := by unfold mKeep; rw [up2_same]
  by_cases c : na < 40
  · refine ⟨o, na + 1, ⟨?_, ?_, a3, by omega, fun i hi => ?_⟩, by rw [e36, if_pos c]⟩
    · unfold actKeep
      rw [if_pos c, up2_col (by decide), stWr_off (by decide), a1]
    · unfold actKeep
      rw [if_pos c, up2_same, nI_1]
    · show RW pp (actKeep S 22 17 o na 23) _ _ _
      rw [actKeep_23, mKeep_20, mKeepR, if_pos c]
      by_cases e : i = na
      · subst e
        exact RW.new h8 lv po b1 b2 b8
      · have hne : (o + i) % 40 ≠ (o + na) % 40 := by omega
        refine (a5 i (by omega)).congr h8 (fun j hj => ?_) (fun j hj => ?_)
        · rw [stWr_out (by omega)]
        · rw [pkR_off (by omega)]
  · have hna : na = 40 := by omega
    subst hna
    refine ⟨(o + 1) % 40, 40, ⟨?_, ?_, by omega, by omega, fun i hi => ?_⟩, by rw [e36, if_neg c]⟩
    · unfold actKeep
      rw [if_neg c, up2_same]
    · unfold actKeep
      rw [if_neg c, up2_col (by decide), stWr_off (by decide), a2]
    · show RW pp (actKeep S 22 17 o 40 23) _ _ _
      rw [actKeep_23, mKeep_20, mKeepR, if_neg c]
      by_cases e : i = 39
      · subst e
        rw [show ((o + 1) % 40 + 39) % 40 * 36 = (o + 40) % 40 * 36 by omega, show 36 * 39 = 1404 from rfl]
        exact RW.new h8 lv po b1 b2 b8
      · have e1 : ((o + 1) % 40 + i) % 40 = (o + (i + 1)) % 40 := by omega
        have hne : (o + (i + 1)) % 40 ≠ (o + 40) % 40 := by omega
        rw [e1]
        refine (a5 (i + 1) (by omega)).congr h8 (fun j hj => ?_) (fun j hj => ?_)
        · rw [stWr_out (by omega)]
        · rw [pkR_off (by omega), shL_in 1404 36 _ _ (by decide), if_pos (by omega)]
          congr 1
          omega
/-- SUNDAYS and ACTS change what stands -/
theorem Rq.live {bb' : Nat} (h : Rq S T s n pp r bb) (e : ∀ k, s ≤ k → k ≤ s + 9 → k ≠ s + 8 → S' k = S k) (e0 : S' 0 9 = S 0 9) (m : ∀ k, 3 ≤ k → k ≤ 13 → T' k = T k) (b1 : S' 17 5 = nI bb') (b2 : T' 0 35 = nI bb') (b8 : bb' ≤ 8) (lv : LV S' T' 17 pp) (po : PO T' pp) : Rq S' T' s n pp r bb' := by
  obtain ⟨⟨r1, r2, r3, r4, r5, r6, r7, r8, -, -⟩, sh, -, ⟨m1, m2, m3, m4, m5, m6, m7, m8, -, -⟩, -⟩ := h
  refine ⟨⟨?_, ?_, r3, ?_, ?_, r6, ?_, r8, b1, b8⟩, sh.off e m, lv, ⟨?_, m2, ?_, ?_, m5, ?_, m7, ?_, b2, b8⟩, po⟩
  · rw [e0]; exact r1
  · rw [e (s + 2) (by omega) (by omega) (by omega)]; exact r2
  · rw [e (s + 5) (by omega) (by omega) (by omega)]; exact r4
  · rw [e s (by omega) (by omega) (by omega)]; exact r5
  · rw [e (s + 6) (by omega) (by omega) (by omega)]; exact r7
  · rw [m 3 (by decide) (by decide)]; exact m1
  · rw [m 12 (by decide) (by decide)]; exact m3
  · rw [m 3 (by decide) (by decide)]; exact m4
  · rw [m 3 (by decide) (by decide)]; exact m6
  · rw [m 13 (by decide) (by decide)]; exact m8
theorem RELp.b (h : RELp S T s t n pp r bb o na ns z) : S 17 5 = nI bb ∧ T 0 35 = nI bb ∧ bb ≤ 8 := ⟨h.ri.2.2.2.2.2.2.2.2.1, h.mi.2.2.2.2.2.2.2.2.1, h.mi.2.2.2.2.2.2.2.2.2⟩
/-- behind an act -/
theorem act_REL {bb' : Nat} (h : RELp S T s t n pp r bb o na ns z) (e : ∀ k, k ≠ 0 → (k < 17 ∨ 23 < k) → (k < 57 ∨ 67 < k) → k ≠ s + 8 → S' k = S k) (e0 : ∀ j, j ≠ 11 → S' 0 j = S 0 j) (e22 : S' 22 = actKeep S 22 17 o na 22) (e23 : S' 23 = actKeep S 22 17 o na 23) (m : tX T T') (m20 : T' 20 = mKeep T na 20) (m36 : T' 0 36 = mKeep T na 0 36) (rq : Rq S' T' s n pp r bb') : REL S' T' := by
  obtain ⟨o', na', k1, k2⟩ := keep_AC h.mi.2.2.2.2.1 h.rq.2.2.1 h.po h.b.1 h.b.2.1 h.b.2.2 h.ac.1
  have hs := h.hs
  refine ⟨s, t, n, pp, r, bb', o', na', ns, z, h.1.same (fun k _ => e k (by omega) (by omega) (by omega) (by omega)) (e0 10 (by decide)) m, rq, ?_, ?_⟩
  · rw [m20]; exact k1.same e22 e23
  · rw [m36]; exact k2
theorem mKeep_X : tX T (mKeep T na) := ⟨fun k h => by unfold mKeep; rw [up2_row (by omega), upR_row (by omega)], fun j h => by unfold mKeep; rw [up2_col (by omega), upR_row (by decide)]⟩
theorem tX.trans {V : Nat → Nat → Int32} (a : tX T U) (c : tX U V) : tX T V := ⟨fun k h => (c.1 k h).trans (a.1 k h), fun j h => (c.2 j h).trans (a.2 j h)⟩
theorem tX.up {k j : Nat} {x : Int32} (h : (16 ≤ k ∧ k ≤ 25) ∨ (k = 0 ∧ (j = 2 ∨ (32 ≤ j ∧ j ≤ 36)))) : tX T (up2 T k j x) := by
  refine ⟨fun k' hk => up2_row (by omega), fun i hi => ?_⟩
  rcases h with q | ⟨rfl, q⟩
  · rw [up2_row (by omega)]
  · rw [up2_col (by omega)]
/-- what stands is the same in what was kept -/
theorem keep_LV (lv : LV S T 17 pp) : LV (actKeep S 22 17 o na) (mKeep T na) 17 pp := by
  unfold LV at *
  rw [actKeep_off (by decide) (by decide), actKeep_off (by decide) (by decide), actKeep_off (by decide) (by decide), actKeep_off (by decide) (by decide), actKeep_off (by decide) (by decide)]
  unfold mKeep
  simp (disch := decide) only [up2_row, up2_col, upR_row]
  exact lv
theorem keep_PO (po : PO T pp) : PO (mKeep T na) pp := by
  unfold PO at *
  unfold mKeep
  simp (disch := decide) only [up2_row, upR_row]
  exact po
theorem keep_Rq (hs : s = 4 ∨ s = 44) (h : Rq S T s n pp r bb) : Rq (actKeep S 22 17 o na) (mKeep T na) s n pp r bb :=
  h.live (fun k _ _ _ => actKeep_off (by omega) (by omega)) (by rw [actKeep_off (by decide) (by decide)]) (fun k _ _ => by unfold mKeep; rw [up2_row (by omega), upR_row (by omega)]) (by rw [actKeep_off (by decide) (by decide)]; exact h.1.2.2.2.2.2.2.2.2.1) (by unfold mKeep; rw [up2_col (by decide), upR_row (by decide)]; exact h.2.2.2.1.2.2.2.2.2.2.2.2.1) h.2.2.2.1.2.2.2.2.2.2.2.2.2 (keep_LV h.2.2.1) (keep_PO h.2.2.2.2)
/-- refused: one more is counted -/
theorem st_REL {j : Nat} (hj : j < 3) (h : RELp S T s t n pp r bb o na ns z) : REL (up2 S 27 j (S 27 j + 1)) (up2 T 14 j (T 14 j + 1)) := by
  have hs := h.hs
  have m : tS T (up2 T 14 j (T 14 j + 1)) → True := fun _ => trivial
  obtain ⟨⟨hst, h1, h4, ⟨h5, h5b⟩, h6, h7, h8, h9⟩, h2, h3, h3b⟩ := h
  refine ⟨s, t, n, pp, r, bb, o, na, ns, z, ⟨hst, ?_, fun i hi => ?_, ⟨?_, ?_⟩, ?_, ?_, ?_, ?_⟩, h2.live (fun k _ _ _ => up2_row (by omega)) (by rw [up2_row (by decide)]) (fun k _ _ => up2_row (by omega)) (by rw [up2_row (by decide)]; exact h2.1.2.2.2.2.2.2.2.2.1) (by rw [up2_row (by decide)]; exact h2.2.2.2.1.2.2.2.2.2.2.2.2.1) h2.2.2.2.1.2.2.2.2.2.2.2.2.2 ?_ ?_, ?_, ?_⟩
  · rw [up2_row (by decide)]; exact h1
  · by_cases e : i = j
    · subst e; rw [up2_same, up2_same, h4 i hi]
    · rw [up2_col e, up2_col e]; exact h4 i hi
  · unfold SN at *
    simp (disch := decide) only [up2_row]
    exact h5
  · rw [up2_row (by decide)]; exact h5b
  · simp (disch := decide) only [up2_row]
    exact h6
  · unfold BO at *
    simp (disch := decide) only [up2_row]
    exact h7
  · simp (disch := decide) only [up2_row]
    exact h8
  · unfold IMR IR AC SN2 at *
    simp (disch := decide) only [up2_row]
    exact h9
  · have := h2.2.2.1
    unfold LV at *
    simp (disch := decide) only [up2_row]
    exact this
  · have := h2.2.2.2.2
    unfold PO at *
    simp (disch := decide) only [up2_row]
    exact this
  · have := h3
    unfold AC at *
    simp (disch := decide) only [up2_row]
    exact this
  · simp (disch := decide) only [up2_row]
    exact h3b
end T4
