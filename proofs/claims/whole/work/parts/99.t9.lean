/-! ===== texts, on both sides ===== -/
section T9
variable {S T S' T' R T1 : Nat → Nat → Int32} {s t n pp r bb o na ns z k dn : Nat}
theorem shT_0 {j : Nat} (h : j ≠ 2) (h1 : j ≠ 16) (h2 : j ≠ 17) (h3 : j ≠ 18) (h4 : j ≠ 23) (h5 : j ≠ 25) (h6 : j ≠ 26) : shT T k 0 j = T 0 j := by
  unfold shT shT2 shT1
  rw [upR_row (by decide), up2_row (by decide), up2_row (by decide), up2_row (by decide), up2_row (by decide), up2_col h6, up2_col h5, up2_col h4, up2_col h2, up2_col h3, up2_col h1, up2_col h]
theorem shT_v : shT T k 0 2 = 0 ∧ shT T k 0 16 = 0 ∧ shT T k 0 25 = -1 := by
  unfold shT shT2 shT1
  simp (disch := decide) only [upR_row, up2_row, up2_col, up2_same, and_self]
theorem shT_34 {i j : Nat} (h : i = 3 ∨ i = 4) (hj : j < thr i) : shT T k i j = T i j := by
  unfold shT shT2 shT1
  rcases h with rfl | rfl
  · have : j < 4 := hj
    rw [upR_row (by decide), up2_col (by omega), up2_col (by omega), up2_col (by omega), up2_col (by omega)]
    simp (disch := decide) only [up2_row]
  · have : j < 10 := hj
    rw [upR_same]
    unfold fillR
    rw [if_neg (by omega)]
    simp (disch := decide) only [up2_row]
/-- the model's rows that a text leaves -/
theorem FR.lo (fr : FR (shT T k) T1) {i j : Nat} (h1 : 3 ≤ i) (h2 : i ≤ 13) (hj : j < thr i) : T1 i j = T i j := by
  rw [fr.2.1 i j h1 h2 hj]
  by_cases c : i = 3 ∨ i = 4
  · exact shT_34 c hj
  · rw [shT_off (by omega) (by omega) (by omega)]
theorem FR.hi (fr : FR (shT T k) T1) {i : Nat} (h : 13 < i) : T1 i = T i := by
  rw [fr.1 i (Or.inl h), shT_off (by omega) (by omega) (by omega)]
theorem FR.zr (fr : FR (shT T k) T1) {j : Nat} (h : 26 < j) : T1 0 j = T 0 j := by
  rw [fr.2.2 j (by omega), shT_0 (by omega) (by omega) (by omega) (by omega) (by omega) (by omega) (by omega)]
theorem FR.v (fr : FR (shT T k) T1) : T1 0 2 = 0 ∧ T1 0 16 = 0 ∧ T1 0 25 = -1 := by
  obtain ⟨v1, v2, v3⟩ := shT_v (T := T) (k := k)
  rw [fr.2.2 2 (by decide), fr.2.2 16 (by decide), fr.2.2 25 (by decide)]
  exact ⟨v1, v2, v3⟩
theorem wfC_congr {cd cd' : Nat → Int32} : ∀ (m i n : Nat), (∀ j, i ≤ j → j < i + m → cd j = cd' j) → wfC cd m i n → wfC cd' m i n := by
  intro m
  induction m with
  | zero => intro i n _ h; exact h
  | succ m ih =>
    intro i n e h
    rw [wfC] at *
    rw [← e i (Nat.le_refl _) (by omega)]
    have e' : ∀ j, i + 1 ≤ j → j < i + 1 + m → cd j = cd' j := fun j h1 h2 => e j (by omega) (by omega)
    split
    · next q =>
      rw [if_pos q] at h
      split
      · next q2 => rw [if_pos q2] at h; exact ⟨h.1, ih _ _ e' h.2⟩
      · next q2 => rw [if_neg q2] at h; exact ⟨h.1, ih _ _ e' h.2⟩
    · next q =>
      rw [if_neg q] at h
      exact ⟨h.1, h.2.1, ih _ _ e' h.2.2⟩
/-- a text that is refused -/
theorem shore_no (h : RELp S T s t n pp r bb o na ns z) (x : PI S R t) (rb : RB R T1) (fr : FR (shT T k) T1) : REL (up2 (shU R) 27 0 (shU R 27 0 + 1)) (up2 (up2 T1 0 25 (T1 0 24)) 14 0 (T1 14 0 + 1)) := by
  have hs := h.hs
  obtain ⟨⟨hst, h1, h4, ⟨h5, h5b⟩, -, ⟨h7, h7b, h7c⟩, h8, h9⟩, h2, h3, h3b⟩ := h
  have ht : t = 4 ∨ t = 44 := by omega
  have eC : ∀ i, i ≠ 0 → i ≠ 1 → i ≠ 2 → (i < t ∨ t + 12 < i) → i ≠ 27 → up2 (shU R) 27 0 (shU R 27 0 + 1) i = S i := fun i i0 i1 i2 i3 i4 => by
    rw [up2_row i4]
    unfold shU
    rw [up2_row i0, up2_row i2]
    exact x.2.2.2.2.2 i i1 i2 i3
  have e0 : ∀ j, j ≠ 10 → up2 (shU R) 27 0 (shU R 27 0 + 1) 0 j = S 0 j := fun j hj => by
    rw [up2_row (by decide)]
    unfold shU
    rw [up2_col hj, up2_row (by decide), x.2.2.2.2.2 0 (by decide) (by decide) (by omega)]
  have r27 : R 27 = S 27 := x.2.2.2.2.2 27 (by decide) (by decide) (by omega)
  have u27 : shU R 27 = S 27 := by unfold shU; rw [up2_row (by decide), up2_row (by decide), r27]
  have f14 : T1 14 = T 14 := fr.hi (by decide)
  have eM : ∀ i, 14 < i → up2 (up2 T1 0 25 (T1 0 24)) 14 0 (T1 14 0 + 1) i = T i := fun i hi => by
    rw [up2_row (by omega), up2_row (by omega)]; exact fr.hi (by omega)
  have eL : ∀ i j, 3 ≤ i → i ≤ 13 → j < thr i → up2 (up2 T1 0 25 (T1 0 24)) 14 0 (T1 14 0 + 1) i j = T i j := fun i j h1 h2 hj => by
    rw [up2_row (by omega), up2_row (by omega)]; exact fr.lo h1 h2 hj
  have m0 : ∀ j, 26 < j → up2 (up2 T1 0 25 (T1 0 24)) 14 0 (T1 14 0 + 1) 0 j = T 0 j := fun j hj => by
    rw [up2_row (by decide), up2_col (by omega)]; exact fr.zr hj
  generalize hS' : up2 (shU R) 27 0 (shU R 27 0 + 1) = S' at *
  generalize hT' : up2 (up2 T1 0 25 (T1 0 24)) 14 0 (T1 14 0 + 1) = T' at *
  obtain ⟨⟨q1, q2, q3, q4, q5, q6, q7, q8, q9, q10⟩, ⟨sh1, sh2, sh3, sh4⟩, ⟨⟨l1, l2, l3⟩, l4⟩, ⟨m1, m2, m3, m4, m5, m6, m7, m8, m9, m10⟩, po⟩ := h2
  have t12 : ∀ i, i < n → T' 12 i = T 12 i ∧ T' 9 i = T 9 i ∧ T' 10 i = T 10 i ∧ T' 11 i = T 11 i := fun i hi => ⟨eL 12 i (by decide) (by decide) (by show i < 12; omega), eL 9 i (by decide) (by decide) (by show i < 12; omega), eL 10 i (by decide) (by decide) (by show i < 12; omega), eL 11 i (by decide) (by decide) (by show i < 12; omega)⟩
  refine ⟨s, t, n, pp, r, bb, o, na, ns, 0, ⟨hst, ?_, fun j hj => ?_, ⟨?_, ?_⟩, ⟨?_, ?_, by decide, fun k hk => by omega⟩, ⟨?_, ?_, ?_⟩, ?_, ?_⟩, ⟨⟨?_, ?_, q3, ?_, ?_, q6, ?_, q8, ?_, q10⟩, ⟨fun i hi => ?_, fun i hi => ?_, fun q hq => ?_, fun i hi => ?_⟩, ⟨?_, fun q hq => ?_⟩, ⟨?_, m2, fun i hi => ?_, ?_, m5, ?_, m7, fun hr => ?_, ?_, m10⟩, fun q hq => ?_⟩, ?_, ?_⟩
  · rw [← hS', up2_row (by decide)]; unfold shU; rw [up2_row (by decide), up2_row (by decide)]; exact x.2.1
  · rw [← hS', ← hT', u27, f14]
    by_cases e : j = 0
    · subst e; rw [up2_same, up2_same, h4 0 hj]
    · rw [up2_col e, up2_col e, up2_row (by decide), u27, f14]; exact h4 j hj
  · unfold SN at *
    rw [eC 24 (by decide) (by decide) (by decide) (by omega) (by decide), eC (24 + 1) (by decide) (by decide) (by decide) (by omega) (by decide), eC (24 + 2) (by decide) (by decide) (by decide) (by omega) (by decide), m0 37 (by decide), eM 26 (by decide), eM 27 (by decide), eM 28 (by decide)]
    exact h5
  · rw [eC 24 (by decide) (by decide) (by decide) (by omega) (by decide)]; exact h5b
  · rw [← hS', up2_row (by decide)]; unfold shU; rw [up2_row (by decide), up2_same]; rfl
  · rw [← hT', up2_row (by decide), up2_col (by decide)]; exact fr.v.2.1
  · unfold BO at *; rw [eM 15 (by decide)]; exact h7
  · rw [eM 28 (by decide)]; exact h7b
  · rw [eM 34 (by decide)]; exact h7c
  · rw [← hS', ← hT', up2_row (by decide), up2_row (by decide)]
    unfold shU
    rw [up2_same, up2_same]
    exact rb.2.2.symm
  · have m48 := m0 48 (by decide)
    refine ⟨by rw [eC 28 (by decide) (by decide) (by decide) (by omega) (by decide), m48]; exact h9.1, fun q => ?_⟩
    rw [m48] at q
    obtain ⟨o, na, ns, a1, ⟨a2, a3⟩, ⟨a4, a5⟩, a6⟩ := h9.2 q
    refine ⟨o, na, ns, ?_, ⟨?_, ?_⟩, ⟨?_, ?_⟩, ?_⟩
    · rw [eM 29 (by decide)]; exact a1.same (fun j _ _ => eC j (by omega) (by omega) (by omega) (by omega) (by omega))
    · rw [eM 30 (by decide)]; exact a2.same (eC 34 (by decide) (by decide) (by decide) (by omega) (by decide)) (eC 35 (by decide) (by decide) (by decide) (by omega) (by decide))
    · rw [m0 49 (by decide)]; exact a3
    · unfold SN2 at *
      rw [eC 36 (by decide) (by decide) (by decide) (by omega) (by decide), eC (36 + 1) (by decide) (by decide) (by decide) (by omega) (by decide), eC (36 + 2) (by decide) (by decide) (by decide) (by omega) (by decide), m0 50 (by decide), eM 31 (by decide), eM 32 (by decide), eM 34 (by decide)]
      exact a4
    · rw [eC 36 (by decide) (by decide) (by decide) (by omega) (by decide)]; exact a5
    · rw [eC 39 (by decide) (by decide) (by decide) (by omega) (by decide), eM 33 (by decide)]; exact a6
  · rw [e0 9 (by decide)]; exact q1
  · rw [eC (s + 2) (by omega) (by omega) (by omega) (by omega) (by omega)]; exact q2
  · rw [eC (s + 5) (by omega) (by omega) (by omega) (by omega) (by omega)]; exact q4
  · rw [eC s (by omega) (by omega) (by omega) (by omega) (by omega)]; exact q5
  · rw [eC (s + 6) (by omega) (by omega) (by omega) (by omega) (by omega)]; exact q7
  · rw [eC 17 (by omega) (by omega) (by omega) (by omega) (by omega)]; exact q9
  · obtain ⟨a1, a2, a3, a4⟩ := t12 i hi
    rw [a1, a2, a3, a4, eC (s + 3) (by omega) (by omega) (by omega) (by omega) (by omega), eC (s + 4) (by omega) (by omega) (by omega) (by omega) (by omega), eC (s + 5) (by omega) (by omega) (by omega) (by omega) (by omega), eC (s + 2) (by omega) (by omega) (by omega) (by omega) (by omega)]
    exact sh1 i hi
  · rw [eC (s + 1) (by omega) (by omega) (by omega) (by omega) (by omega), eL 4 i (by decide) (by decide) hi]; exact sh2 i hi
  · rw [eC (s + 9) (by omega) (by omega) (by omega) (by omega) (by omega), eL 7 q (by decide) (by decide) (by show q < 8; omega)]; exact sh3 q hq
  · rw [eC (s + 7) (by omega) (by omega) (by omega) (by omega) (by omega), eL 13 i (by decide) (by decide) (by show i < 700; omega)]; exact sh4 i hi
  · rw [eC 17 (by omega) (by omega) (by omega) (by omega) (by omega), m0 32 (by decide), m0 33 (by decide), m0 34 (by decide)]; exact ⟨l1, l2, l3⟩
  · rw [eC (17 + 1) (by omega) (by omega) (by omega) (by omega) (by omega), eC (17 + 2) (by omega) (by omega) (by omega) (by omega) (by omega), eC (17 + 3) (by omega) (by omega) (by omega) (by omega) (by omega), eC (17 + 4) (by omega) (by omega) (by omega) (by omega) (by omega), eM 16 (by decide), eM 17 (by decide), eM 18 (by decide), eM 19 (by decide)]
    exact l4 q hq
  · rw [eL 3 1 (by decide) (by decide) (by decide)]; exact m1
  · rw [(t12 i hi).1]; exact m3 i hi
  · rw [eL 3 0 (by decide) (by decide) (by decide)]; exact m4
  · rw [eL 3 3 (by decide) (by decide) (by decide)]; exact m6
  · exact wfC_congr r 0 0 (fun j _ hj => (eL 13 j (by decide) (by decide) (by show j < 700; omega)).symm) (m8 hr)
  · rw [m0 35 (by decide)]; exact m9
  · rw [eM 16 (by decide), eM 17 (by decide)]; exact po q hq
  · rw [eM 20 (by decide)]; exact h3.same (eC 22 (by omega) (by omega) (by omega) (by omega) (by omega)) (eC 23 (by omega) (by omega) (by omega) (by omega) (by omega))
  · rw [m0 36 (by decide)]; exact h3b
/-! ===== a new SHORE ===== -/
theorem opL_off {k : Nat} (h : k < 16 ∨ 19 < k) : ∀ (m p : Nat) (X : Nat → Nat → Int32), opL pp m p X k = X k := by
  intro m
  induction m with
  | zero => intro p X; rfl
  | succ m ih => intro p X; rw [opL, ih, up2_row (by omega), up2_row (by omega), up2_row (by omega), up2_row (by omega)]
theorem opL_in : ∀ (m p : Nat) (X : Nat → Nat → Int32) (q : Nat), (q < p → opL pp m p X 16 q = X 16 q ∧ opL pp m p X 17 q = X 17 q ∧ opL pp m p X 18 q = X 18 q ∧ opL pp m p X 19 q = X 19 q) ∧ (p ≤ q → q < p + m → opL pp m p X 16 q = (if q < pp then X 5 q else 0) ∧ opL pp m p X 17 q = (if q < pp then X 6 q else 0) ∧ opL pp m p X 18 q = (if q < pp then X 8 q else 0) ∧ opL pp m p X 19 q = 0) := by
  intro m
  induction m with
  | zero => intro p X q; exact ⟨fun _ => ⟨rfl, rfl, rfl, rfl⟩, fun _ _ => by omega⟩
  | succ m ih =>
    intro p X q
    rw [opL]
    obtain ⟨i1, i2⟩ := ih (p + 1) (up2 (up2 (up2 (up2 X 16 p (if p < pp then X 5 p else 0)) 17 p (if p < pp then X 6 p else 0)) 18 p (if p < pp then X 8 p else 0)) 19 p 0) q
    refine ⟨fun hq => ?_, fun h1 h2 => ?_⟩
    · obtain ⟨a1, a2, a3, a4⟩ := i1 (by omega)
      rw [a1, a2, a3, a4]
      have e : q ≠ p := by omega
      simp (disch := decide) only [up2_row, up2_col e, and_self]
    · by_cases e : q = p
      · subst e
        obtain ⟨a1, a2, a3, a4⟩ := i1 (by omega)
        rw [a1, a2, a3, a4]
        simp (disch := decide) only [up2_row, up2_same, and_self]
      · obtain ⟨a1, a2, a3, a4⟩ := i2 (by omega) (by omega)
        rw [a1, a2, a3, a4]
        simp (disch := decide) only [up2_row, and_self]
theorem thU_in {i j : Nat} (h1 : 3 ≤ i) (h2 : i < 14) (hj : j < thr i) : thU T1 14 i j = T1 i (thr i + j) := by
  unfold thU
  rw [if_pos ⟨h1, h2⟩]
  unfold thF
  rw [if_pos hj]
theorem tkO_lo {i j : Nat} (h1 : 3 ≤ i) (h2 : i < 14) (hj : j < thr i) : tkO T1 pp i j = T1 i (thr i + j) := by
  unfold tkO
  rw [up2_row (by omega), up2_row (by omega), up2_row (by omega), opL_off (by omega)]
  unfold tkO1
  rw [up2_row (by omega), up2_row (by omega), up2_row (by omega), up2_row (by omega)]
  exact thU_in h1 h2 hj
theorem thU_off {i : Nat} (h : i < 3 ∨ 13 < i) : thU T1 14 i = T1 i := by
  unfold thU
  rw [if_neg (by omega)]
theorem tkO_hi {i : Nat} (h : i = 14 ∨ i = 15 ∨ 19 < i) : tkO T1 pp i = T1 i := by
  unfold tkO
  rw [up2_row (by omega), up2_row (by omega), up2_row (by omega), opL_off (by omega)]
  unfold tkO1
  rw [up2_row (by omega), up2_row (by omega), up2_row (by omega), up2_row (by omega)]
  exact thU_off (by omega)
theorem tkO_0 {j : Nat} (h : j < 32 ∨ (37 < j ∧ j ≠ 48)) : tkO T1 pp 0 j = T1 0 j := by
  unfold tkO
  rw [up2_col (by omega), up2_col (by omega), up2_col (by omega), opL_off (by decide)]
  unfold tkO1
  rw [up2_col (by omega), up2_col (by omega), up2_col (by omega), up2_col (by omega), thU_off (by decide)]
theorem tkO_v : tkO T1 pp 0 32 = 0 ∧ tkO T1 pp 0 33 = 0 ∧ tkO T1 pp 0 34 = 0 ∧ tkO T1 pp 0 35 = T1 3 6 ∧ tkO T1 pp 0 36 = 0 ∧ tkO T1 pp 0 37 = 0 ∧ tkO T1 pp 0 48 = 0 := by
  have e : thU T1 14 3 2 = T1 3 6 := thU_in (by decide) (by decide) (by decide)
  unfold tkO
  refine ⟨?_, ?_, ?_, ?_, ?_, ?_, ?_⟩
  · rw [up2_col (by decide), up2_col (by decide), up2_col (by decide), opL_off (by decide)]; unfold tkO1; simp (disch := decide) only [up2_col, up2_same]
  · rw [up2_col (by decide), up2_col (by decide), up2_col (by decide), opL_off (by decide)]; unfold tkO1; simp (disch := decide) only [up2_col, up2_same]
  · rw [up2_col (by decide), up2_col (by decide), up2_col (by decide), opL_off (by decide)]; unfold tkO1; simp (disch := decide) only [up2_col, up2_same]
  · rw [up2_col (by decide), up2_col (by decide), up2_col (by decide), opL_off (by decide)]; unfold tkO1; rw [up2_same, e]
  · rw [up2_col (by decide), up2_col (by decide), up2_same]
  · rw [up2_col (by decide), up2_same]
  · rw [up2_same]
theorem tkO_q {q : Nat} (hq : q < pp) (h8 : pp ≤ 8) : tkO T1 pp 16 q = T1 5 (8 + q) ∧ tkO T1 pp 17 q = T1 6 (8 + q) ∧ tkO T1 pp 18 q = T1 8 (8 + q) ∧ tkO T1 pp 19 q = 0 := by
  unfold tkO
  simp (disch := decide) only [up2_row]
  obtain ⟨a1, a2, a3, a4⟩ := (opL_in (pp := pp) 8 0 (tkO1 (thU T1 14)) q).2 (by omega) (by omega)
  rw [a1, a2, a3, a4, if_pos hq, if_pos hq, if_pos hq]
  unfold tkO1
  simp (disch := decide) only [up2_row]
  rw [thU_in (by decide) (by decide) (show q < 8 by omega), thU_in (by decide) (by decide) (show q < 8 by omega), thU_in (by decide) (by decide) (show q < 8 by omega)]
  exact ⟨rfl, rfl, rfl, trivial⟩
theorem shore_ok {pp' : Nat} (h : RELp S T s t n pp r bb o na ns z) (x : PI S R t) (hp : R 1 3 = -1) (rd : RD R T1 t dn) (fr : FR (shT T k) T1) (e4 : T1 3 4 = nI pp') (h8' : pp' ≤ 8) : REL (shNew (shU R) t) (tkO T1 pp') := by
  have hs := h.hs
  obtain ⟨⟨hst, h1, h4, -, -, ⟨h7, h7b, h7c⟩, -, -⟩, h2, h3, h3b⟩ := h
  have ht : t = 4 ∨ t = 44 := by omega
  obtain ⟨pp2, n2, r2, -, ⟨d1, d2, d3⟩, ⟨d4, d5, d6, d7⟩, ⟨d8, bb2, d9, d10, d11⟩, ⟨d12, d13, d14, d15, d16⟩, ⟨d17, -⟩, d18, d19, -⟩ := rd
  have epp : pp2 = pp' := (nI_eq (by omega) (by omega)).mp (d2.symm.trans e4)
  subst epp
  have u1 : shU R 1 = R 1 := by unfold shU; rw [up2_row (by decide), up2_row (by decide)]
  have r0 : R 0 = S 0 := x.2.2.2.2.2 0 (by decide) (by decide) (by omega)
  have u09 : shU R 0 9 = S 0 9 := by unfold shU; rw [up2_col (by decide), up2_row (by decide), r0]
  have uo : ∀ i, i ≠ 0 → i ≠ 2 → shU R i = R i := fun i i0 i2 => by unfold shU; rw [up2_row i0, up2_row i2]
  have eN : ∀ i, i ≠ 0 → i ≠ 1 → (i < 17 ∨ 21 < i) → i ≠ 22 → i ≠ 24 → i ≠ 28 → shNew (shU R) t i = shU R i := fun i i0 i1 i2 i3 i4 i5 => by
    unfold shNew
    rw [up2_row i5, up2_row i4, up2_row i4, up2_row i3]
    unfold stStart
    simp (disch := omega) only [up2_row, upR_row]
  have eD : ∀ i, t ≤ i → i ≤ t + 12 → shNew (shU R) t i = R i := fun i i1 i2 => by rw [eN i (by omega) (by omega) (by omega) (by omega) (by omega) (by omega), uo i (by omega) (by omega)]
  have eS : ∀ i, i = 3 ∨ i = 23 ∨ i = 27 → shNew (shU R) t i = S i := fun i hi => by rw [eN i (by omega) (by omega) (by omega) (by omega) (by omega) (by omega), uo i (by omega) (by omega)]; exact x.2.2.2.2.2 i (by omega) (by omega) (by omega)
  have n0 : ∀ j, shNew (shU R) t 0 j = if j = 9 then R 1 1 else shU R 0 j := fun j => by
    unfold shNew
    rw [up2_row (by decide), up2_row (by decide), up2_row (by decide), up2_row (by decide)]
    unfold stStart
    simp (disch := decide) only [up2_row, upR_row]
    by_cases e : j = 9
    · subst e; rw [up2_same, if_pos rfl, u1]
    · rw [up2_col e, if_neg e, up2_row (by decide)]
  have n1 : shNew (shU R) t 1 1 = S 0 9 := by
    unfold shNew
    rw [up2_row (by decide), up2_row (by decide), up2_row (by decide), up2_row (by decide)]
    unfold stStart
    simp (disch := decide) only [up2_row, upR_row]
    rw [up2_same, u09]
  have n17 : shNew (shU R) t 17 4 = 0 ∧ shNew (shU R) t 17 5 = R t 9 ∧ shNew (shU R) t 17 6 = 0 ∧ shNew (shU R) t 17 7 = 0 := by
    unfold shNew
    simp (disch := decide) only [up2_row]
    unfold stStart
    simp (disch := decide) only [up2_same, up2_col]
    refine ⟨trivial, ?_, trivial, trivial⟩
    rw [up2_row (by omega), up2_row (by omega), uo t (by omega) (by omega)]
  have nq : ∀ q, q < 8 → shNew (shU R) t (17 + 1) q = R (t + 10) q ∧ shNew (shU R) t (17 + 2) q = R (t + 11) q ∧ shNew (shU R) t (17 + 3) q = R (t + 12) q ∧ shNew (shU R) t (17 + 4) q = 0 := fun q hq => by
    unfold shNew
    simp (disch := decide) only [up2_row]
    unfold stStart
    simp (disch := decide) only [up2_row, upR_row, upR_same]
    rw [cpy_at0 hq, cpy_at0 hq, cpy_at0 hq, up2_row (by omega), up2_row (by omega), up2_row (by omega), up2_row (by omega), up2_row (by omega), up2_row (by omega), uo (t + 10) (by omega) (by omega), uo (t + 11) (by omega) (by omega), uo (t + 12) (by omega) (by omega)]
    unfold fillR
    rw [if_pos ⟨by omega, hq⟩]
    exact ⟨rfl, rfl, rfl, rfl⟩
  have n22 : shNew (shU R) t 22 1 = S 22 1 ∧ shNew (shU R) t 22 2 = 0 := by
    unfold shNew
    simp (disch := decide) only [up2_row, up2_same, up2_col]
    unfold stStart
    simp (disch := decide) only [up2_row, upR_row]
    rw [uo 22 (by decide) (by decide), x.2.2.2.2.2 22 (by decide) (by decide) (by omega)]
    exact ⟨rfl, trivial⟩
  have n24 : shNew (shU R) t 24 2 = 0 ∧ shNew (shU R) t 24 3 = 0 ∧ shNew (shU R) t 28 4 = 0 ∧ shNew (shU R) t 2 4 = 0 := by
    refine ⟨?_, ?_, ?_, ?_⟩
    · unfold shNew; rw [up2_row (by decide), up2_same]
    · unfold shNew; rw [up2_row (by decide), up2_col (by decide), up2_same]
    · unfold shNew; rw [up2_same]
    · rw [eN 2 (by decide) (by decide) (by decide) (by decide) (by decide) (by decide)]; unfold shU; rw [up2_row (by decide), up2_same]
  obtain ⟨v32, v33, v34, v35, v36, v37, v48⟩ := tkO_v (T1 := T1) (pp := pp2)
  generalize hS' : shNew (shU R) t = S' at *
  have L : ∀ i j, 3 ≤ i → i < 14 → j < thr i → tkO T1 pp2 i j = T1 i (thr i + j) := fun i j a c d => tkO_lo a c d
  have t12 : ∀ i, i < n2 → tkO T1 pp2 12 i = T1 12 (12 + i) ∧ tkO T1 pp2 9 i = T1 9 (12 + i) ∧ tkO T1 pp2 10 i = T1 10 (12 + i) ∧ tkO T1 pp2 11 i = T1 11 (12 + i) := fun i hi => ⟨L 12 i (by decide) (by decide) (by show i < 12; omega), L 9 i (by decide) (by decide) (by show i < 12; omega), L 10 i (by decide) (by decide) (by show i < 12; omega), L 11 i (by decide) (by decide) (by show i < 12; omega)⟩
  have gv : ∀ i, i < n2 → ∃ g, g < 10 ∧ R (t + 5) i = nI g := fun i hi => (d19 i hi).2
  refine ⟨t, s, n2, pp2, r2, bb2, o, 0, 0, 0, ⟨by omega, ?_, fun j hj => ?_, ⟨⟨?_, ?_, by decide, fun j hj => by omega⟩, ?_⟩, ⟨?_, ?_, by decide, fun k hk => by omega⟩, ⟨?_, ?_, ?_⟩, ?_, ?_, fun q => ?_⟩, ⟨⟨?_, ?_, d6, ?_, ?_, d3, ?_, d14, ?_, d10⟩, ⟨fun i hi => ?_, fun i hi => ?_, fun q hq => ?_, fun i hi => ?_⟩, ⟨?_, fun q hq => ?_⟩, ⟨?_, d6, fun i hi => ?_, ?_, d3, ?_, d14, fun hr => ?_, ?_, d10⟩, fun q hq => ?_⟩, ⟨?_, ?_, h3.2.2.1, by decide, fun i hi => by omega⟩, ?_⟩
  · rw [n1]; exact h2.1.1
  · rw [eS 27 (by decide), tkO_hi (by decide), fr.hi (by decide)]; exact h4 j hj
  · rw [n24.2.1]; rfl
  · rw [v37]; rfl
  · rw [n24.1]; exact lowB_0 0
  · rw [n24.2.2.2]; rfl
  · rw [tkO_0 (by decide)]; exact fr.v.2.1
  · unfold BO at *; rw [tkO_hi (by decide), fr.hi (by decide)]; exact h7
  · rw [tkO_hi (by decide), fr.hi (by decide)]; exact h7b
  · rw [tkO_hi (by decide), fr.hi (by decide)]; exact h7c
  · rw [n0, if_neg (by decide), tkO_0 (by decide), fr.v.2.2]
    unfold shU
    rw [up2_same]
    exact hp
  · rw [n24.2.2.1, v48]
  · exact absurd v48 q
  · rw [n0, if_pos rfl]; exact x.2.1
  · rw [eD (t + 2) (by omega) (by omega)]; exact d4
  · rw [eD (t + 5) (by omega) (by omega)]; exact gv
  · rw [eD t (by omega) (by omega)]; exact d1
  · rw [eD (t + 6) (by omega) (by omega)]; exact d12
  · rw [n17.2.1]; exact d11
  · obtain ⟨a1, a2, a3, a4⟩ := t12 i hi
    rw [a1, a2, a3, a4, eD (t + 3) (by omega) (by omega), eD (t + 4) (by omega) (by omega), eD (t + 5) (by omega) (by omega), eD (t + 2) (by omega) (by omega)]
    exact d19 i hi
  · rw [eD (t + 1) (by omega) (by omega), L 4 i (by decide) (by decide) hi]; exact d17 i hi
  · rw [eD (t + 9) (by omega) (by omega), L 7 q (by decide) (by decide) (by show q < 8; omega)]; exact (d18 q hq).1.2.2.1
  · rw [eD (t + 7) (by omega) (by omega), L 13 i (by decide) (by decide) (by show i < 700; omega)]; exact d15 i hi
  · rw [v32, v33, v34, n17.1, n17.2.2.1, n17.2.2.2]; exact ⟨rfl, rfl, rfl⟩
  · obtain ⟨a1, a2, a3, a4⟩ := nq q (by omega)
    obtain ⟨b1, b2, b3, b4⟩ := tkO_q (T1 := T1) hq d3
    obtain ⟨⟨c1, c2, c3, c4⟩, -⟩ := d18 q hq
    rw [a1, a2, a3, a4, b1, b2, b3, b4]
    exact ⟨c1.symm, c2.symm, c4.symm, rfl⟩
  · rw [L 3 1 (by decide) (by decide) (by decide)]; exact d5
  · rw [(t12 i hi).1, ← (d19 i hi).1.2.2.1]; exact gv i hi
  · rw [L 3 0 (by decide) (by decide) (by decide)]; exact d2
  · rw [L 3 3 (by decide) (by decide) (by decide)]; exact d13
  · refine dpF_wf r2 0 0 ?_
    rw [← d16 hr]
    exact dpF_congr r2 0 0 (fun j _ hj => L 13 j (by decide) (by decide) (by show j < 700; omega))
  · rw [v35, ← d8]; exact d11
  · obtain ⟨b1, b2, -, -⟩ := tkO_q (T1 := T1) hq d3
    obtain ⟨⟨c1, c2, -, -⟩, c5, c6, -⟩ := d18 q hq
    rw [b1, b2, ← c1, ← c2]
    exact ⟨c5, c6⟩
  · rw [n22.1]; exact h3.1
  · rw [n22.2]; rfl
  · rw [v36]; rfl
theorem pr_shore (h : REL S T) (x : Int32) : AnI mX11_shore mX12_shore [.int x] S T := by
  obtain ⟨s, t, n, pp, r, bb, o, na, ns, z, h⟩ := h
  have hs := h.hs
  obtain ⟨t1, t2, t3, t4⟩ := h.tp
  have hst := h.1.1
  have hdr : shC (S 1 1) = t := h.1.2.1
  rcases rng (x := x) (l' := 0) (m' := nI z) 0 z rfl rfl (by decide) (by omega) with hx | ⟨k, -, hk, rfl⟩
  · exact Or.inr (Pth.q h (fun G b d h0 hb hd => X11_shore_bad t1 hx (by omega)) (fun G b d h0 hb hd => X12_shore_bad (by rw [t2]; exact hx) hb (by omega)))
  · left
    have px : PI S (rdT S t k).2 t := PI_rdLs _ _ (PI_rd0 (by omega) hdr)
    have bo : BO T := h.1.2.2.2.2.2.1.1
    by_cases c : (rdT S t k).1 = 0
    · refine ⟨0, shNew (shU (rdT S t k).2) t, fun G b d h0 hb hd => ?_, fun G b d h0 hb hd => V_post (fun r h' q => ?_) (X12_shore (S := S) (n := k) t2 t3 hk bo t4 hdr hb (by omega))⟩
      · have := X11_shore (G := G) (b := b) (d := d) (h0 := h0) (S := S) h.ri.1 hdr t1 t3 hk hb (by omega)
        rw [if_pos c, if_pos c] at this
        exact this
      · obtain ⟨v, T', e1, e2, ⟨-, e3, T1, dn, pp', f1, f2, f3, f4, f5, f6⟩ | ⟨e3, -⟩⟩ := q
        · subst f6
          refine ⟨some (.int v), _, e1, e2, by rw [e3], ?_, shore_ok h px (rdT_place (by omega) c) f2 f3 f4 f5⟩
          rw [tkO_0 (by decide)]
          exact f3.v.1
        · exact absurd c e3
    · refine ⟨(rdT S t k).1, up2 (shU (rdT S t k).2) 27 0 (shU (rdT S t k).2 27 0 + 1), fun G b d h0 hb hd => ?_, fun G b d h0 hb hd => V_post (fun r h' q => ?_) (X12_shore (S := S) (n := k) t2 t3 hk bo t4 hdr hb (by omega))⟩
      · have := X11_shore (G := G) (b := b) (d := d) (h0 := h0) (S := S) h.ri.1 hdr t1 t3 hk hb (by omega)
        rw [if_neg c, if_neg c] at this
        exact this
      · obtain ⟨v, T', e1, e2, ⟨e3, -⟩ | ⟨-, e3, T1, f1, f2, f3⟩⟩ := q
        · exact absurd e3 c
        · subst f3
          refine ⟨some (.int v), _, e1, e2, by rw [e3], ?_, shore_no h px f1 f2⟩
          rw [up2_row (by decide), up2_col (by decide)]
          exact f2.v.1
end T9
