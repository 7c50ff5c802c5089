/-! ===== class and model: years by a seed are the same ===== -/
section R4
variable {S T S' T' : Nat → Nat → Int32} {s n pp r bb : Nat}
/-- one of them has, or misses, something else: what it would have is reckoned anew -/
theorem change_WR {q : Nat} (hs : s = 4 ∨ s = 44) (w : WR S T s n pp r bb) (h12 : n ≤ 12) (hq : q < pp) (a : ∀ k, k ≠ 0 → k ≠ 59 → k ≠ 60 → S' k = S k) (c : ∀ k, k ≠ 0 → k ≠ 16 → k ≠ 17 → T' k = T k) (c0 : ∀ j, 32 ≤ j → j ≤ 34 → T' 0 j = T 0 j)
    (h59 : ∀ j, j ≠ q → S' 59 j = S 59 j ∧ S' 60 j = S 60 j ∧ T' 16 j = T 16 j ∧ T' 17 j = T 17 j) (hv : T' 16 q = S' 59 q ∧ T' 17 q = S' 60 q) : WR (wkSettle S' s n q) T' s n pp r bb := by
  obtain ⟨⟨h1, h2, h3, h4⟩, sh, h5, h6, h7⟩ := w
  have sh2 : SH S' T' s n pp r := sh.off (fun k _ _ _ => a k (by omega) (by omega) (by omega)) (fun k _ _ => c k (by omega) (by omega) (by omega))
  have lv : LV S' T' 58 pp := by
    refine ⟨?_, fun p hp => ?_⟩
    · rw [c0 32 (by decide) (by decide), c0 33 (by decide) (by decide), c0 34 (by decide) (by decide), a 58 (by decide) (by decide) (by decide)]
      exact h5
    · show T' 16 p = S' 59 p ∧ T' 17 p = S' 60 p ∧ T' 18 p = S' 61 p ∧ T' 19 p = S' 62 p
      rw [c 18 (by decide) (by decide) (by decide), c 19 (by decide) (by decide) (by decide), a 61 (by decide) (by decide) (by decide), a 62 (by decide) (by decide) (by decide)]
      by_cases e : p = q
      · subst e
        exact ⟨hv.1, hv.2, (h6 p hp).2.2⟩
      · obtain ⟨e1, e2, e3, e4⟩ := h59 p e
        rw [e1, e2, e3, e4]
        exact h6 p hp
  have off : ∀ k, k < 63 ∨ 66 < k → wkSettle S' s n q k = S' k := fun k hk => wkSettle_off hk
  refine ⟨⟨?_, ?_, ?_, ?_⟩, sh2.off (fun k _ _ _ => off k (by omega)) (fun _ _ _ => rfl), ?_, ?_, fun p hp => ?_⟩
  · rw [off 57 (by omega), a 57 (by decide) (by decide) (by decide)]; exact h1
  · rw [off s (by omega), a s (by omega) (by omega) (by omega)]; exact h2
  · rw [off (s + 6) (by omega), a (s + 6) (by omega) (by omega) (by omega)]; exact h3
  · rw [off 58 (by omega), a 58 (by decide) (by decide) (by decide)]; exact h4
  · rw [off 58 (by omega)]; exact lv.1
  · rw [off 59 (by omega), off 60 (by omega), off 61 (by omega), off 62 (by omega)]; exact lv.2
  · by_cases e : p = q
    · subst e
      obtain ⟨t1, t2⟩ := there_eq sh2 h12 lv hp
      unfold wkSettle
      simp (disch := decide) only [up2_row, up2_same]
      rw [t1, t2, worth_eq sh2, worth_eq sh2, worth_eq sh2, hv.1]
      exact ⟨rfl, rfl, rfl, rfl⟩
    · obtain ⟨e1, e2, e3, e4⟩ := h59 p e
      obtain ⟨g1, g2, g3, g4⟩ := h7 p hp
      have t1 : mThere T' n p = mThere T n p ∧ mSpare T' n p = mSpare T n p := by
        unfold mThere mSpare mF
        rw [e3, e4, c0 34 (by decide) (by decide), c 7 (by decide) (by decide) (by decide), c 9 (by decide) (by decide) (by decide), c 10 (by decide) (by decide) (by decide), c 11 (by decide) (by decide) (by decide), c 12 (by decide) (by decide) (by decide)]
        exact ⟨rfl, rfl⟩
      rw [t1.1, t1.2, e3, c 4 (by decide) (by decide) (by decide)]
      unfold wkSettle
      simp (disch := first | decide | exact e) only [up2_row, up2_col]
      rw [a 63 (by decide) (by decide) (by decide), a 64 (by decide) (by decide) (by decide), a 65 (by decide) (by decide) (by decide), a 66 (by decide) (by decide) (by decide)]
      exact ⟨g1, g2, g3, g4⟩
theorem draw_WR (hs : s = 4 ∨ s = 44) (w : WR S T s n pp r bb) (h12 : n ≤ 12) (e : S 0 11 = T 0 47) : WR (wkDraw S s n pp) (mSmt T pp) s n pp r bb ∧ wkDraw S s n pp 0 11 = mSmt T pp 0 47 := by
  unfold wkDraw mSmt
  rw [e]
  by_cases h : 2 < drw (lcg (T 0 47)) % 6 ∨ pp = 0
  · rw [if_pos h, if_pos h]
    refine ⟨?_, by rw [up2_same, up2_same]⟩
    have w1 := w.tm (T' := up2 T 0 47 (lcg (T 0 47))) (fun k _ _ => up2_row (by omega)) (fun j _ _ => up2_col (by omega))
    obtain ⟨⟨h1, h2, h3, h4⟩, sh, h5, h6, h7⟩ := w1
    refine ⟨⟨?_, ?_, ?_, ?_⟩, sh.off (fun k _ _ _ => up2_row (by omega)) (fun _ _ _ => rfl), ?_, ?_, ?_⟩
    · rw [up2_row (by decide)]; exact h1
    · rw [up2_row (by omega)]; exact h2
    · rw [up2_row (by omega)]; exact h3
    · rw [up2_row (by decide)]; exact h4
    · rw [up2_row (show 58 ≠ 0 by decide)]; exact h5
    · rw [up2_row (show 59 ≠ 0 by decide), up2_row (show 60 ≠ 0 by decide), up2_row (show 61 ≠ 0 by decide), up2_row (show 62 ≠ 0 by decide)]; exact h6
    · rw [up2_row (show 63 ≠ 0 by decide), up2_row (show 64 ≠ 0 by decide), up2_row (show 65 ≠ 0 by decide), up2_row (show 66 ≠ 0 by decide)]; exact h7
  · rw [if_neg h, if_neg h]
    have hp : 0 < pp := by omega
    have hq : drw (lcg (lcg (T 0 47))) % pp < pp := Nat.mod_lt _ hp
    generalize hz : drw (lcg (lcg (T 0 47))) % pp = q at hq ⊢
    generalize drw (lcg (lcg (lcg (T 0 47)))) % 10 = x
    generalize nI (drw (lcg (T 0 47)) % 6) = kd
    have o := w.2.2.2.1 q hq
    have e59 : ∀ (f : Nat → Nat → Int32) (a c d : Int32), up2 (up2 (up2 f 0 11 a) 0 11 c) 0 11 d 59 = f 59 := fun f a c d => by simp (disch := decide) only [up2_row]
    dsimp only
    rw [e59]
    by_cases k0 : kd = 0
    · rw [if_pos k0, if_pos k0]
      refine ⟨change_WR hs w h12 hq (fun k a1 a2 a3 => ?_) (fun k a1 a2 a3 => ?_) (fun j a1 a2 => ?_) (fun j hj => ?_) ?_, ?_⟩
      · simp (disch := first | decide | assumption) only [up2_row]
      · simp (disch := first | decide | assumption) only [up2_row]
      · rw [up2_row (by decide), up2_col (by omega)]
      · simp (disch := first | decide | assumption) only [up2_row, up2_col, and_self]
      · simp (disch := first | decide | assumption) only [up2_row, up2_same, o.1, o.2.1, and_self]
      · rw [wkSettle_off (by omega)]
        simp (disch := first | decide | assumption) only [up2_row, up2_same]
    · rw [if_neg k0, if_neg k0]
      by_cases k1 : kd = 1
      · rw [if_pos k1, if_pos k1]
        refine ⟨change_WR hs w h12 hq (fun k a1 a2 a3 => ?_) (fun k a1 a2 a3 => ?_) (fun j a1 a2 => ?_) (fun j hj => ?_) ?_, ?_⟩
        · simp (disch := first | decide | assumption) only [up2_row]
        · simp (disch := first | decide | assumption) only [up2_row]
        · rw [up2_row (by decide), up2_col (by omega)]
        · simp (disch := first | decide | assumption) only [up2_row, up2_col, and_self]
        · simp (disch := first | decide | assumption) only [up2_row, up2_same, o.1, o.2.1, and_self]
        · rw [wkSettle_off (by omega)]
          simp (disch := first | decide | assumption) only [up2_row, up2_same]
      · rw [if_neg k1, if_neg k1]
        refine ⟨change_WR hs w h12 hq (fun k a1 a2 a3 => ?_) (fun k a1 a2 a3 => ?_) (fun j a1 a2 => ?_) (fun j hj => ?_) ?_, ?_⟩
        · simp (disch := first | decide | assumption) only [up2_row]
        · simp (disch := first | decide | assumption) only [up2_row]
        · rw [up2_row (by decide), up2_col (by omega)]
        · simp (disch := first | decide | assumption) only [up2_row, up2_col, and_self]
        · simp (disch := first | decide | assumption) only [up2_row, up2_same, o.1, o.2.1, and_self]
        · rw [wkSettle_off (by omega)]
          simp (disch := first | decide | assumption) only [up2_row, up2_same]
theorem yr_eq (hs : s = 4 ∨ s = 44) : ∀ (m : Nat) (x : Int32) (S T : Nat → Nat → Int32), WR S T s n pp r bb → MI T n pp r bb → PO T pp → S 0 11 = T 0 47 → (wkYr s n pp r bb m x S).1 = (mYr n pp r bb m x T).1 ∧ WR (wkYr s n pp r bb m x S).2 (mYr n pp r bb m x T).2 s n pp r bb := by
  intro m
  induction m with
  | zero => intro x S T w _ _ _; exact ⟨rfl, w⟩
  | succ m ih =>
    intro x S T w ci po e
    obtain ⟨w1, e1⟩ := draw_WR hs w ci.2.1 e
    have w2 := (sun_WR hs w1 (mSmt_MI ci) (mSmt_PO po)).1
    rw [wkYr, mYr, ← w2.2.2.1.2.1]
    exact ih _ _ _ w2 (mSun_MI (mSmt_MI ci)) (mSmt_PO po).sun (by rw [wkStep_off (by omega) (by omega), mSun_0 (by decide) (by decide) (by decide)]; exact e1)
theorem tot_1 : ∀ (m i : Nat) (x : Int32), (∀ j, i ≤ j → j < i + m → T 19 j = S 62 j) → mTot T 1 m i x = sumN (S 62) m i x := by
  intro m
  induction m with
  | zero => intro i x _; rfl
  | succ m ih =>
    intro i x h
    rw [mTot, sumN, if_pos (show nI 1 = 1 from rfl), h i (by omega) (by omega)]
    exact ih _ _ (fun j a c => h j (by omega) (by omega))
theorem tot_2 : ∀ (m i : Nat) (x : Int32), (∀ j, i ≤ j → j < i + m → T 18 j = S 61 j) → mTot T 2 m i x = sumN (S 61) m i x := by
  intro m
  induction m with
  | zero => intro i x _; rfl
  | succ m ih =>
    intro i x h
    rw [mTot, sumN, if_neg (show ¬ nI 2 = 1 by decide), if_pos (show nI 2 = 2 from rfl), h i (by omega) (by omega)]
    exact ih _ _ (fun j a c => h j (by omega) (by omega))
theorem tot_0 : ∀ (m i : Nat) (x : Int32), mTot T 0 m i x = x := by
  intro m
  induction m with
  | zero => intro i x; rfl
  | succ m ih =>
    intro i x
    rw [mTot, if_neg (show ¬ nI 0 = 1 by decide), if_neg (show ¬ nI 0 = 2 by decide), Int32.add_zero]
    exact ih _ _
theorem years_eq {k v : Nat} {x0 : Int32} (hs : s = 4 ∨ s = 44) (h : Rq S T s n pp r bb) (hv : v ≤ 2) : yrR (wkYr s n pp r bb k 0 (up2 (wkBegin S (S 0 9) n pp) 0 11 x0)) pp v = mTot (mYr n pp r bb k 0 (up2 (mP (up2 T 0 2 0)) 0 47 x0)).2 v pp 0 (if nI v = 0 then (mYr n pp r bb k 0 (up2 (mP (up2 T 0 2 0)) 0 47 x0)).1 else 0) := by
  obtain ⟨w0, mi, po⟩ := q_WR hs h
  have w1 := w0.tm (T' := up2 (mP (up2 T 0 2 0)) 0 47 x0) (fun k _ _ => up2_row (by omega)) (fun j _ _ => up2_col (by omega))
  have w2 : WR (up2 (wkBegin S (S 0 9) n pp) 0 11 x0) (up2 (mP (up2 T 0 2 0)) 0 47 x0) s n pp r bb := by
    obtain ⟨⟨h1, h2, h3, h4⟩, sh, h5, h6, h7⟩ := w1
    refine ⟨⟨?_, ?_, ?_, ?_⟩, sh.off (fun k _ _ _ => up2_row (by omega)) (fun _ _ _ => rfl), ?_, ?_, ?_⟩
    · rw [up2_row (by decide)]; exact h1
    · rw [up2_row (by omega)]; exact h2
    · rw [up2_row (by omega)]; exact h3
    · rw [up2_row (by decide)]; exact h4
    · rw [up2_row (show 58 ≠ 0 by decide)]; exact h5
    · rw [up2_row (show 59 ≠ 0 by decide), up2_row (show 60 ≠ 0 by decide), up2_row (show 61 ≠ 0 by decide), up2_row (show 62 ≠ 0 by decide)]; exact h6
    · rw [up2_row (show 63 ≠ 0 by decide), up2_row (show 64 ≠ 0 by decide), up2_row (show 65 ≠ 0 by decide), up2_row (show 66 ≠ 0 by decide)]; exact h7
  obtain ⟨y1, y2⟩ := yr_eq hs k 0 _ _ w2 (mi.cz (by decide)) po.cz (by rw [up2_same, up2_same])
  unfold yrR
  rcases (show v = 0 ∨ v = 1 ∨ v = 2 by omega) with e | e | e <;> subst e
  · rw [if_pos (show nI 0 = 0 from rfl), if_pos (show nI 0 = 0 from rfl), tot_0, y1]
  · rw [if_neg (show ¬ nI 1 = 0 by decide), if_neg (show ¬ nI 1 = 0 by decide), if_pos (show nI 1 = 1 from rfl)]
    exact (tot_1 pp 0 0 (fun j _ hj => (y2.2.2.2.1 j (by omega)).2.2.2)).symm
  · rw [if_neg (show ¬ nI 2 = 0 by decide), if_neg (show ¬ nI 2 = 0 by decide), if_neg (show ¬ nI 2 = 1 by decide)]
    exact (tot_2 pp 0 0 (fun j _ hj => (y2.2.2.2.1 j (by omega)).2.2.1)).symm
end R4
