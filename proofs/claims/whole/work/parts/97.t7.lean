/-! ===== what is SEEN; images ===== -/
section T7
variable {S T S' T' : Nat → Nat → Int32} {s t n pp r bb o na ns z : Nat}
theorem RELp.seen {ns' : Nat} (h : RELp S T s t n pp r bb o na ns z) (e : ∀ k, k < 24 ∨ 26 < k → S' k = S k) (m : ∀ k, k ≠ 0 → (k < 26 ∨ 28 < k) → T' k = T k) (m0 : ∀ j, j ≠ 37 → T' 0 j = T 0 j) (sn : SN S' T' 24 ns') (lw : lowB (S' 24 2) ns') (b8 : B8 (T' 28)) : RELp S' T' s t n pp r bb o na ns' z := by
  have hs := h.hs
  obtain ⟨⟨hst, h1, h4, -, ⟨h6, h6b, h6c, h6d⟩, ⟨h7, h7b, h7c⟩, h8, h9⟩, h2, h3, h3b⟩ := h
  refine ⟨⟨hst, ?_, ?_, ⟨sn, lw⟩, ⟨?_, ?_, h6c, ?_⟩, ⟨?_, b8, ?_⟩, ?_, ?_⟩, h2.live (fun k _ _ _ => e k (by omega)) (by rw [e 0 (by decide)]) (fun k _ _ => m k (by omega) (by omega)) (by rw [e 17 (by decide)]; exact h2.b.1) (by rw [m0 35 (by decide)]; exact h2.b.2.1) h2.b.2.2 ?_ ?_, ?_, ?_⟩
  · rw [e 1 (by decide)]; exact h1
  · rw [e 27 (by decide), m 14 (by decide) (by decide)]; exact h4
  · rw [e 2 (by decide)]; exact h6
  · rw [m0 16 (by decide)]; exact h6b
  · rw [e 3 (by decide), m 15 (by decide) (by decide)]; exact h6d
  · unfold BO at *; rw [m 15 (by decide) (by decide)]; exact h7
  · rw [m 34 (by decide) (by decide)]; exact h7c
  · rw [e 0 (by decide), m0 25 (by decide)]; exact h8
  · have m48 := m0 48 (by decide)
    obtain ⟨i1, i2⟩ := h9
    refine ⟨by rw [e 28 (by decide), m48]; exact i1, fun q => ?_⟩
    rw [m48] at q
    obtain ⟨o, na, ns, a1, ⟨a2, a3⟩, ⟨a4, a5⟩, a6⟩ := i2 q
    refine ⟨o, na, ns, ?_, ⟨?_, ?_⟩, ⟨?_, ?_⟩, ?_⟩
    · rw [m 29 (by decide) (by decide)]; exact a1.same (fun j _ _ => e j (by omega))
    · rw [m 30 (by decide) (by decide)]; exact a2.same (e 34 (by decide)) (e 35 (by decide))
    · rw [m0 49 (by decide)]; exact a3
    · unfold SN2 at *
      rw [e 36 (by decide), e (36 + 1) (by decide), e (36 + 2) (by decide), m0 50 (by decide), m 31 (by decide) (by decide), m 32 (by decide) (by decide), m 34 (by decide) (by decide)]
      exact a4
    · rw [e 36 (by decide)]; exact a5
    · rw [e 39 (by decide), m 33 (by decide) (by decide)]; exact a6
  · have lv := h2.2.2.1
    unfold LV at *
    rw [e 17 (by decide), e (17 + 1) (by decide), e (17 + 2) (by decide), e (17 + 3) (by decide), e (17 + 4) (by decide), m0 32 (by decide), m0 33 (by decide), m0 34 (by decide), m 16 (by decide) (by decide), m 17 (by decide) (by decide), m 18 (by decide) (by decide), m 19 (by decide) (by decide)]
    exact lv
  · have po := h2.2.2.2.2
    unfold PO at *
    rw [m 16 (by decide) (by decide), m 17 (by decide) (by decide)]
    exact po
  · rw [m 20 (by decide) (by decide)]; exact h3.same (e 22 (by decide)) (e 23 (by decide))
  · rw [m0 36 (by decide)]; exact h3b
theorem pr_see (h : REL S T) (x y : Int32) {v : Int32} (hv : v = 0 ∨ v = 1) : AnN mX11_see mX12_see [.int x, .int y, .int v] S T := by
  obtain ⟨s, t, n, pp, r, bb, o, na, ns, z, h⟩ := h
  have hz := h.cz
  have hs := h.hs
  have h8 : pp ≤ 8 := h.mi.2.2.2.2.1
  rcases rngp (x := x) pp (by omega) with hx | ⟨q, hq, rfl⟩
  · exact Or.inr (Pth.q h (fun G b d h0 hb hd => X11_see_bad1 h.ri.1 h.ri.2.2.2.2.1 h8 hx (by omega)) (fun G b d h0 hb hd => X12_see_bad1 h.mi.2.2.2.1 h8 (Or.inl (outp (by omega) hx)) hb (by omega)))
  · rcases th10 y with hx | ⟨g, hg, rfl⟩
    · exact Or.inr (Pth.q h (fun G b d h0 hb hd => X11_see_bad2 h.ri.1 h.ri.2.2.2.2.1 h8 hq hx (by omega)) (fun G b d h0 hb hd => X12_see_bad1 h.mi.2.2.2.1 h8 (Or.inr (out10 hx)) hb (by omega)))
    · left
      obtain ⟨s1, s2, s3, s4⟩ := h.sn
      by_cases c : ns = 8
      · subst c
        exact ⟨_, Pok.a rfl (fun G b d h0 hb hd => X11_see_no h.ri hq hg s1 hb (by omega)) (fun G b d h0 hb hd => X12_see_no h.mi s2 hq hg hb (by omega)) (by rw [up2_row (by decide), up2_same]) (st_REL (by decide) hz)⟩
      · have lw : lowB (S 24 2) ns := h.1.2.2.2.1.2
        have b8 : B8 (T 28) := h.1.2.2.2.2.2.1.2.1
        have w : ∀ j, j < 32 → bt (if v = 0 then (0 : Int32) else 1 <<< (nI ns &&& 31)) j = (decide (v = 1) && decide (j = ns)) := fun j hj => by
          rcases hv with rfl | rfl
          · rw [if_pos rfl, b_0]; rfl
          · rw [if_neg (by decide), b_shl1 (by omega) hj]; rfl
        refine ⟨_, Pok.a (nI_1 ns) (fun G b d h0 hb hd => X11_see_ok h.ri hq hg hv s1 (by omega) hb (by omega)) (fun G b d h0 hb hd => X12_see h.mi s2 hq hg hv (by omega) hb (by omega)) ?_ ⟨s, t, n, pp, r, bb, o, na, ns + 1, z, hz.seen (fun k hk => ?_) (fun k h1 h2 => ?_) (fun j hj => ?_) ⟨?_, ?_, by omega, fun j hj => ⟨?_, ?_, ?_⟩⟩ (fun j h1 h2 => ?_) (fun k hk => ?_)⟩⟩
        · unfold seeS
          simp (disch := decide) only [up2_row, up2_col, up2_same]
        · unfold seenPut
          simp (disch := omega) only [up2_row]
        · unfold seeS
          simp (disch := omega) only [up2_row]
        · unfold seeS
          rw [up2_col hj, up2_row (by decide), up2_row (by decide), up2_row (by decide)]
        · unfold seenPut
          rw [up2_same, nI_1]
        · unfold seeS
          rw [up2_same]
        · unfold seenPut seeS
          simp (disch := decide) only [up2_row]
          by_cases e : j = ns
          · subst e; rw [up2_same, up2_same]
          · rw [up2_col e, up2_col e]; exact (s4 j (by omega)).1
        · unfold seenPut seeS
          simp (disch := decide) only [up2_row]
          by_cases e : j = ns
          · subst e; rw [up2_same, up2_same]
          · rw [up2_col e, up2_col e, up2_row (by decide), up2_row (by decide)]; exact (s4 j (by omega)).2.1
        · unfold seenPut seeS
          rw [up2_col (show 2 ≠ 3 by decide), up2_same, hasB_bt (by omega), b_or, w j (by omega)]
          simp (disch := decide) only [up2_row]
          by_cases e : j = ns
          · subst e
            rw [up2_same, lw j (Nat.le_refl _) (by omega)]
            rcases hv with rfl | rfl <;> simp [b2i]
          · rw [up2_col e]
            simp (disch := decide) only [up2_row]
            rw [(s4 j (by omega)).2.2, hasB_bt (by omega)]
            simp [e]
        · unfold seenPut
          rw [up2_col (show 2 ≠ 3 by decide), up2_same, b_or, w j h2, lw j (by omega) h2]
          have : decide (j = ns) = false := by simp; omega
          rw [this]
          simp
        · unfold seeS
          rw [up2_row (by decide)]
          by_cases e : k = ns
          · subst e; rw [up2_same]; exact hv
          · rw [up2_col e, up2_row (by decide), up2_row (by decide), up2_row (by decide)]; exact b8 k hk
theorem pr_forget (h : REL S T) : Pok mX11_forget mX12_forget [] S T none := by
  obtain ⟨s, t, n, pp, r, bb, o, na, ns, z, h⟩ := h
  have hz := h.cz
  refine ⟨_, fun G b d h0 hb hd => X11_forget h.ri hb (by omega), fun G b d h0 hb hd => xJ_of (X12_forget hb) ⟨rfl, by rw [up2_col (by decide), up2_same], s, t, n, pp, r, bb, o, na, 0, z, hz.seen (fun k hk => ?_) (fun k h1 h2 => up2_row (by omega)) (fun j hj => up2_col hj) ⟨?_, up2_same, by decide, fun j hj => by omega⟩ ?_ ?_⟩⟩
  · rw [up2_row (by omega), up2_row (by omega)]
  · rw [up2_col (by decide), up2_same]; rfl
  · rw [up2_same]; exact lowB_0 0
  · rw [up2_row (by decide)]; exact hz.1.2.2.2.2.2.1.2.1
/-! ===== images ===== -/
theorem cpR_in {k o N j : Nat} (hj : j < N) : cpR T k o N k j = T o j := by
  unfold cpR
  rw [upR_same, cpL_in, if_pos (by omega)]
theorem pr_image (h : REL S T) : Pok mX11_image mX12_image [] S T none := by
  obtain ⟨s, t, n, pp, r, bb, o, na, ns, z, h⟩ := h
  have hz := h.cz
  have hs := h.hs
  have h8 : pp ≤ 8 := h.mi.2.2.2.2.1
  have b8 : B8 (T 28) := h.1.2.2.2.2.2.1.2.1
  have eC : ∀ k, k < 28 ∨ 39 < k → imgS S k = S k := fun k hk => by
    unfold imgS
    rw [up2_row (by omega), upR_row (by omega), seenCp_off (by omega), actCp_off (by omega) (by omega), stCp_off (by omega)]
  have eM : ∀ k, k ≠ 0 → k < 29 → mImg (up2 T 0 2 0) k = up2 T 0 2 0 k := fun k h0 hk => by
    unfold mImg
    rw [cpR_off (by omega), cpR_off (by omega), cpR_off (by omega), cpR_off (by omega), cpR_off (by omega)]
    unfold im2
    rw [upR_row (by omega)]
    unfold im1
    rw [up2_row h0, up2_row h0, up2_row h0]
  have e0 : ∀ j, mImg (up2 T 0 2 0) 0 j = im1 (up2 T 0 2 0) 0 j := fun j => by
    unfold mImg
    rw [cpR_off (by decide), cpR_off (by decide), cpR_off (by decide), cpR_off (by decide), cpR_off (by decide)]
    unfold im2
    rw [upR_row (by decide)]
  have e0' : ∀ j, j < 48 ∨ 50 < j → mImg (up2 T 0 2 0) 0 j = up2 T 0 2 0 0 j := fun j hj => by
    rw [e0]
    unfold im1
    rw [up2_col (by omega), up2_col (by omega), up2_col (by omega)]
  have r30 : ∀ j, j < 1440 → mImg (up2 T 0 2 0) 30 j = T 20 j := fun j hj => by
    unfold mImg
    rw [cpR_off (by decide), cpR_off (by decide), cpR_off (by decide), cpR_off (by decide), cpR_in hj]
    unfold im2 im1
    simp (disch := decide) only [upR_row, up2_row]
  have r31 : ∀ j, j < 8 → mImg (up2 T 0 2 0) 31 j = T 26 j := fun j hj => by
    unfold mImg
    rw [cpR_off (by decide), cpR_off (by decide), cpR_off (by decide), cpR_in hj, cpR_off (by decide)]
    unfold im2 im1
    simp (disch := decide) only [upR_row, up2_row]
  have r32 : ∀ j, j < 8 → mImg (up2 T 0 2 0) 32 j = T 27 j := fun j hj => by
    unfold mImg
    rw [cpR_off (by decide), cpR_off (by decide), cpR_in hj, cpR_off (by decide), cpR_off (by decide)]
    unfold im2 im1
    simp (disch := decide) only [upR_row, up2_row]
  have r34 : ∀ j, j < 8 → mImg (up2 T 0 2 0) 34 j = T 28 j := fun j hj => by
    unfold mImg
    rw [cpR_off (by decide), cpR_in hj, cpR_off (by decide), cpR_off (by decide), cpR_off (by decide)]
    unfold im2 im1
    simp (disch := decide) only [upR_row, up2_row]
  have r33 : ∀ j, j < 3 → mImg (up2 T 0 2 0) 33 j = T 14 j := fun j hj => by
    unfold mImg
    rw [cpR_in hj, cpR_off (by decide), cpR_off (by decide), cpR_off (by decide), cpR_off (by decide)]
    unfold im2 im1
    simp (disch := decide) only [upR_row, up2_row]
  have r29 : mImg (up2 T 0 2 0) 29 = pkR (im1 (up2 T 0 2 0)) 0 (im1 (up2 T 0 2 0) 29) := by
    unfold mImg
    rw [cpR_off (by decide), cpR_off (by decide), cpR_off (by decide), cpR_off (by decide), cpR_off (by decide)]
    unfold im2
    rw [upR_same]
  have i0 : ∀ j, j < 48 ∨ 50 < j → im1 (up2 T 0 2 0) 0 j = up2 T 0 2 0 0 j := fun j hj => (e0 j).symm.trans (e0' j hj)
  have i1 : ∀ k, k ≠ 0 → im1 (up2 T 0 2 0) k = T k := fun k hk => by
    unfold im1
    rw [up2_row hk, up2_row hk, up2_row hk, up2_row hk]
  have hr : REL (imgS S) (mImg (up2 T 0 2 0)) := by
    obtain ⟨⟨hst, h1, h4, ⟨h5, h5b⟩, ⟨h6, h6b, h6c, h6d⟩, ⟨h7, h7b, h7c⟩, h8', -⟩, h2, h3, h3b⟩ := hz
    have c28 : imgS S 28 4 = 1 := by unfold imgS; rw [up2_same]
    have m48 : mImg (up2 T 0 2 0) 0 48 = 1 := by rw [e0]; unfold im1; rw [up2_col (by decide), up2_col (by decide), up2_same]
    have m49 : mImg (up2 T 0 2 0) 0 49 = nI na := by rw [e0]; unfold im1; rw [up2_col (by decide), up2_same]; exact h3b
    have m50 : mImg (up2 T 0 2 0) 0 50 = up2 T 0 2 0 0 37 := by rw [e0]; unfold im1; rw [up2_same]
    have c29 : ∀ j, 4 ≤ j → j ≤ 7 → imgS S 29 j = S 17 j := fun j j1 j2 => by
      unfold imgS
      rw [up2_row (by decide), upR_row (by decide), seenCp_off (by decide), actCp_off (by decide) (by decide)]
      unfold stCp
      rcases (show j = 4 ∨ j = 5 ∨ j = 6 ∨ j = 7 by omega) with rfl | rfl | rfl | rfl <;> simp (disch := decide) only [up2_same, up2_col]
    have c30 : ∀ k q, 1 ≤ k → k ≤ 4 → q < 8 → imgS S (29 + k) q = S (17 + k) q := fun k q k1 k2 hq => by
      unfold imgS
      rw [up2_row (by omega), upR_row (by omega), seenCp_off (by omega), actCp_off (by omega) (by omega)]
      unfold stCp st4
      rcases (show k = 1 ∨ k = 2 ∨ k = 3 ∨ k = 4 by omega) with rfl | rfl | rfl | rfl <;> simp (disch := decide) only [up2_row, upR_row, upR_same] <;> exact cpy_at0 hq
    have c34 : imgS S 34 1 = S 22 1 ∧ imgS S 34 2 = S 22 2 := by
      unfold imgS
      rw [up2_row (by decide), upR_row (by decide), seenCp_off (by decide)]
      unfold actCp
      simp (disch := decide) only [up2_same, up2_col]
      rw [stCp_off (by decide)]
      exact ⟨rfl, rfl⟩
    have c35 : ∀ j, j < 1440 → imgS S 35 j = S 23 j := fun j hj => by
      unfold imgS
      rw [up2_row (by decide), upR_row (by decide), seenCp_off (by decide)]
      unfold actCp
      simp (disch := decide) only [up2_row, upR_same]
      rw [cpy_at0 hj, stCp_off (by decide)]
    have c36 : imgS S 36 2 = S 24 2 ∧ imgS S 36 3 = S 24 3 := by
      unfold imgS
      rw [up2_row (by decide), upR_row (by decide)]
      unfold seenCp
      simp (disch := decide) only [up2_same, up2_col]
      rw [actCp_off (by decide) (by decide), stCp_off (by decide)]
      exact ⟨rfl, rfl⟩
    have c37 : ∀ k j, 1 ≤ k → k ≤ 2 → j < 8 → imgS S (36 + k) j = S (24 + k) j := fun k j k1 k2 hj => by
      unfold imgS
      rw [up2_row (by omega), upR_row (by omega)]
      unfold seenCp
      rcases (show k = 1 ∨ k = 2 by omega) with rfl | rfl <;> simp (disch := decide) only [up2_row, upR_row, upR_same] <;> rw [cpy_at0 hj, actCp_off (by decide) (by decide), stCp_off (by decide)]
    have c39 : ∀ j, j < 3 → imgS S 39 j = S 27 j := fun j hj => by
      unfold imgS
      rw [up2_row (by decide), upR_same, cpy_at0 hj]
    obtain ⟨p1, p2, p3, p4⟩ := pkR_b (S := im1 (up2 T 0 2 0)) (a := 0) (f := im1 (up2 T 0 2 0) 29)
    obtain ⟨⟨l1, l2, l3⟩, l4⟩ := h2.2.2.1
    refine ⟨s, t, n, pp, r, bb, o, na, ns, z, ⟨hst, ?_, ?_, ⟨?_, ?_⟩, ⟨?_, ?_, h6c, ?_⟩, ⟨?_, ?_, ?_⟩, ?_, ?_, fun _ => ⟨o, na, ns, ⟨⟨?_, ?_, ?_, ?_, bb, h2.b.2.2, ?_⟩, fun q hq => ?_⟩, ⟨⟨?_, ?_, h3.2.2.1, h3.2.2.2.1, fun i hi => ?_⟩, m49⟩, ⟨⟨?_, ?_, h5.2.2.1, fun j hj => ?_⟩, ?_⟩, fun j hj => ?_⟩⟩, h2.live (fun k _ _ _ => eC k (by omega)) (by rw [eC 0 (by decide)]) (fun k _ _ => eM k (by omega) (by omega)) (by rw [eC 17 (by decide)]; exact h2.b.1) (by rw [e0' 35 (by decide)]; exact h2.b.2.1) h2.b.2.2 ?_ ?_, ?_, ?_⟩
    · rw [eC 1 (by decide)]; exact h1
    · rw [eC 27 (by decide), eM 14 (by decide) (by decide)]; exact h4
    · unfold SN at *
      rw [eC 24 (by decide), eC (24 + 1) (by decide), eC (24 + 2) (by decide), e0' 37 (by decide), eM 26 (by decide) (by decide), eM 27 (by decide) (by decide), eM 28 (by decide) (by decide)]
      exact h5
    · rw [eC 24 (by decide)]; exact h5b
    · rw [eC 2 (by decide)]; exact h6
    · rw [e0' 16 (by decide)]; exact h6b
    · rw [eC 3 (by decide), eM 15 (by decide) (by decide)]; exact h6d
    · unfold BO at *; rw [eM 15 (by decide) (by decide)]; exact h7
    · rw [eM 28 (by decide) (by decide)]; exact h7b
    · intro k hk; rw [r34 k hk]; exact b8 k hk
    · rw [eC 0 (by decide), e0' 25 (by decide)]; exact h8'
    · rw [c28, m48]
    · rw [r29, c29 6 (by decide) (by decide)]
      exact p1.trans ((i0 32 (by decide)).trans l1)
    · rw [r29, c29 7 (by decide) (by decide)]
      exact p2.trans ((i0 33 (by decide)).trans l2)
    · rw [r29, c29 4 (by decide) (by decide)]
      exact p3.trans ((i0 34 (by decide)).trans l3)
    · rw [r29, c29 5 (by decide) (by decide)]
      exact p4.trans ((i0 35 (by decide)).trans (h2.b.2.1.trans h2.b.1.symm))
    · rw [c29 5 (by decide) (by decide)]; exact h2.b.1
    · have q8 : q < 8 := by omega
      obtain ⟨k1, k2, k3, k4⟩ := pkR_in (S := im1 (up2 T 0 2 0)) (a := 0) (f := im1 (up2 T 0 2 0) 29) q8
      obtain ⟨m1, m2, m3, m4⟩ := l4 q hq
      obtain ⟨⟨x, x1, x2⟩, y, y1, y2⟩ := h2.2.2.2.2 q hq
      rw [r29, k1, k2, k3, k4, c30 1 q (by decide) (by decide) q8, c30 2 q (by decide) (by decide) q8, c30 3 q (by decide) (by decide) q8, c30 4 q (by decide) (by decide) q8, i1 16 (by decide), i1 17 (by decide), i1 18 (by decide), i1 19 (by decide)]
      simp (disch := decide) only [up2_row] at m1 m2 m3 m4 x2 y2
      exact ⟨⟨m1, m2, m3, m4⟩, ⟨x, x1, m1.symm.trans x2⟩, y, y1, m2.symm.trans y2⟩
    · rw [c34.1]; exact h3.1
    · rw [c34.2]; exact h3.2.1
    · refine (h3.2.2.2.2 i hi).congr h8 (fun j hj => ?_) (fun j hj => ?_)
      · show imgS S 35 _ = S 23 _
        exact c35 _ (by omega)
      · have := h3.2.2.2.1
        rw [r30 _ (by omega), up2_row (by decide)]
    · rw [c36.2]; exact h5.1
    · rw [m50]; exact h5.2.1
    · have := h5.2.2.1
      rw [c37 1 j (by decide) (by decide) (by omega), c37 2 j (by decide) (by decide) (by omega), r31 j (by omega), r32 j (by omega), r34 j (by omega), c36.1]
      have := h5.2.2.2 j hj
      simp (disch := decide) only [up2_row] at this
      exact this
    · rw [c36.1]; exact h5b
    · rw [c39 j hj, r33 j hj]
      have := h4 j hj
      simp (disch := decide) only [up2_row] at this
      exact this
    · have lv := h2.2.2.1
      unfold LV at *
      rw [eC 17 (by decide), eC (17 + 1) (by decide), eC (17 + 2) (by decide), eC (17 + 3) (by decide), eC (17 + 4) (by decide), e0' 32 (by decide), e0' 33 (by decide), e0' 34 (by decide), eM 16 (by decide) (by decide), eM 17 (by decide) (by decide), eM 18 (by decide) (by decide), eM 19 (by decide) (by decide)]
      exact lv
    · have po := h2.2.2.2.2
      unfold PO at *
      rw [eM 16 (by decide) (by decide), eM 17 (by decide) (by decide)]
      exact po
    · rw [eM 20 (by decide) (by decide)]; exact h3.same (eC 22 (by decide)) (eC 23 (by decide))
    · rw [e0' 36 (by decide)]; exact h3b
  exact ⟨_, fun G b d h0 hb hd => X11_image h.ri hb (by omega), fun G b d h0 hb hd => xJ_of (X12_image b8 hb (by omega)) ⟨rfl, by rw [e0' 2 (by decide), up2_same], hr⟩⟩
end T7
