/-! ===== images are brought back; bytes are fed; texts are read ===== -/
section T8
variable {S T S' T' : Nat → Nat → Int32} {s t n pp r bb o na ns z : Nat}
theorem pr_restore (h : REL S T) : An0 mX11_restore mX12_restore [] S T := by
  obtain ⟨s, t, n, pp, r, bb, o, na, ns, z, h⟩ := h
  have hz := h.cz
  have hs := h.hs
  have h8 : pp ≤ 8 := h.mi.2.2.2.2.1
  obtain ⟨im0, im1'⟩ := h.1.2.2.2.2.2.2.2
  by_cases c : T 0 48 = 0
  · exact ⟨_, Pok.qe0 h rfl (fun G b d h0 hb hd => X11_restore_no h.ri (im0.trans c) hb (by omega)) (fun G b d h0 hb hd => X12_restore_no c hb (by omega))⟩
  · obtain ⟨o', na', ns', ir, ⟨⟨c1, c2, c3, c4, c5⟩, c6⟩, ⟨⟨d1, d2, d3, d4⟩, d5⟩, d6⟩ := im1' c
    have b34 : B8 (T 34) := h.1.2.2.2.2.2.1.2.2
    have eC : ∀ k, k < 17 ∨ 27 < k → rstS S k = S k := fun k hk => by
      unfold rstS
      rw [upR_row (by omega), seenCp_off (by omega), actCp_off (by omega) (by omega), stCp_off (by omega)]
    have eU : ∀ k, k ≠ 0 → (k < 16 ∨ 19 < k) → rs2 (rs1 (up2 T 0 2 0)) k = T k := fun k k0 hk => by
      unfold rs2
      rw [unR_off hk k0]
      unfold rs1
      rw [up2_row k0, up2_row k0, up2_row k0]
    have eM : ∀ k, k ≠ 0 → k ≠ 14 → (k < 16 ∨ 28 < k) → mRst (up2 T 0 2 0) k = T k := fun k k0 k1 hk => by
      unfold mRst
      rw [cpR_off (by omega), cpR_off (by omega), cpR_off (by omega), cpR_off (by omega), cpR_off (by omega)]
      exact eU k k0 (by omega)
    have e0 : ∀ j, mRst (up2 T 0 2 0) 0 j = rs2 (rs1 (up2 T 0 2 0)) 0 j := fun j => by
      unfold mRst
      rw [cpR_off (by decide), cpR_off (by decide), cpR_off (by decide), cpR_off (by decide), cpR_off (by decide)]
    have e0' : ∀ j, (j < 32 ∨ 37 < j) → mRst (up2 T 0 2 0) 0 j = up2 T 0 2 0 0 j := fun j hj => by
      rw [e0]
      unfold rs2
      rw [unR_0 (by omega)]
      unfold rs1
      rw [up2_col (by omega), up2_col (by omega)]
    have r20 : ∀ j, j < 1440 → mRst (up2 T 0 2 0) 20 j = T 30 j := fun j hj => by
      unfold mRst
      rw [cpR_off (by decide), cpR_off (by decide), cpR_off (by decide), cpR_off (by decide), cpR_in hj, eU 30 (by decide) (by decide)]
    have r26 : ∀ j, j < 8 → mRst (up2 T 0 2 0) 26 j = T 31 j := fun j hj => by
      unfold mRst
      rw [cpR_off (by decide), cpR_off (by decide), cpR_off (by decide), cpR_in hj, cpR_off (by decide), eU 31 (by decide) (by decide)]
    have r27 : ∀ j, j < 8 → mRst (up2 T 0 2 0) 27 j = T 32 j := fun j hj => by
      unfold mRst
      rw [cpR_off (by decide), cpR_off (by decide), cpR_in hj, cpR_off (by decide), cpR_off (by decide), eU 32 (by decide) (by decide)]
    have r28 : ∀ j, j < 8 → mRst (up2 T 0 2 0) 28 j = T 34 j := fun j hj => by
      unfold mRst
      rw [cpR_off (by decide), cpR_in hj, cpR_off (by decide), cpR_off (by decide), cpR_off (by decide), eU 34 (by decide) (by decide)]
    have r14 : ∀ j, j < 3 → mRst (up2 T 0 2 0) 14 j = T 33 j := fun j hj => by
      unfold mRst
      rw [cpR_in hj, cpR_off (by decide), cpR_off (by decide), cpR_off (by decide), cpR_off (by decide), eU 33 (by decide) (by decide)]
    have g29 : rs1 (up2 T 0 2 0) 29 = T 29 := by
      unfold rs1
      rw [up2_row (by decide), up2_row (by decide), up2_row (by decide)]
    have rL : ∀ k, 16 ≤ k → k ≤ 19 → mRst (up2 T 0 2 0) k = unR (T 29) 0 (rs1 (up2 T 0 2 0)) k := fun k k1 k2 => by
      unfold mRst
      rw [cpR_off (by omega), cpR_off (by omega), cpR_off (by omega), cpR_off (by omega), cpR_off (by omega)]
      unfold rs2
      rw [g29]
    obtain ⟨u1, u2, u3, u4⟩ := unR_b (S := rs1 (up2 T 0 2 0)) (g := T 29) (a := 0)
    have f32 : ∀ j, 32 ≤ j → j ≤ 35 → mRst (up2 T 0 2 0) 0 j = unR (T 29) 0 (rs1 (up2 T 0 2 0)) 0 j := fun j _ _ => by
      rw [e0]
      unfold rs2
      rw [g29]
    have m36 : mRst (up2 T 0 2 0) 0 36 = nI na' := by
      rw [e0]
      unfold rs2
      rw [unR_0 (by decide)]
      unfold rs1
      rw [up2_col (by decide), up2_same, up2_col (by decide)]
      exact c6
    have m37 : mRst (up2 T 0 2 0) 0 37 = nI ns' := by
      rw [e0]
      unfold rs2
      rw [unR_0 (by decide)]
      unfold rs1
      rw [up2_same, up2_col (by decide)]
      exact d2
    have c17 : ∀ j, 4 ≤ j → j ≤ 7 → rstS S 17 j = S 29 j := fun j j1 j2 => by
      unfold rstS
      rw [upR_row (by decide), seenCp_off (by decide), actCp_off (by decide) (by decide)]
      unfold stCp
      rcases (show j = 4 ∨ j = 5 ∨ j = 6 ∨ j = 7 by omega) with rfl | rfl | rfl | rfl <;> simp (disch := decide) only [up2_same, up2_col]
    have c18 : ∀ k q, 1 ≤ k → k ≤ 4 → q < 8 → rstS S (17 + k) q = S (29 + k) q := fun k q k1 k2 hq => by
      unfold rstS
      rw [upR_row (by omega), seenCp_off (by omega), actCp_off (by omega) (by omega)]
      unfold stCp st4
      rcases (show k = 1 ∨ k = 2 ∨ k = 3 ∨ k = 4 by omega) with rfl | rfl | rfl | rfl <;> simp (disch := decide) only [up2_row, upR_row, upR_same] <;> exact cpy_at0 hq
    have c22 : rstS S 22 1 = S 34 1 ∧ rstS S 22 2 = S 34 2 := by
      unfold rstS
      rw [upR_row (by decide), seenCp_off (by decide)]
      unfold actCp
      simp (disch := decide) only [up2_same, up2_col]
      rw [stCp_off (by decide)]
      exact ⟨rfl, rfl⟩
    have c23 : ∀ j, j < 1440 → rstS S 23 j = S 35 j := fun j hj => by
      unfold rstS
      rw [upR_row (by decide), seenCp_off (by decide)]
      unfold actCp
      simp (disch := decide) only [up2_row, upR_same]
      rw [cpy_at0 hj, stCp_off (by decide)]
    have c24 : rstS S 24 2 = S 36 2 ∧ rstS S 24 3 = S 36 3 := by
      unfold rstS
      rw [upR_row (by decide)]
      unfold seenCp
      simp (disch := decide) only [up2_same, up2_col]
      rw [actCp_off (by decide) (by decide), stCp_off (by decide)]
      exact ⟨rfl, rfl⟩
    have c25 : ∀ k j, 1 ≤ k → k ≤ 2 → j < 8 → rstS S (24 + k) j = S (36 + k) j := fun k j k1 k2 hj => by
      unfold rstS
      rw [upR_row (by omega)]
      unfold seenCp
      rcases (show k = 1 ∨ k = 2 by omega) with rfl | rfl <;> simp (disch := decide) only [up2_row, upR_row, upR_same] <;> rw [cpy_at0 hj, actCp_off (by decide) (by decide), stCp_off (by decide)]
    have c27 : ∀ j, j < 3 → rstS S 27 j = S 39 j := fun j hj => by
      unfold rstS
      rw [upR_same, cpy_at0 hj]
    obtain ⟨⟨i1, i2, i3, i4, bb', hb8, i5⟩, i6⟩ := ir
    have hr : REL (rstS S) (mRst (up2 T 0 2 0)) := by
      obtain ⟨⟨hst, h1, -, -, ⟨h6, h6b, h6c, h6d⟩, ⟨h7, -, -⟩, h8', h9⟩, h2, -, -⟩ := h
      refine ⟨s, t, n, pp, r, bb', o', na', ns', z, ⟨hst, ?_, fun j hj => ?_, ⟨⟨?_, m37, d3, fun j hj => ?_⟩, ?_⟩, ⟨?_, ?_, h6c, ?_⟩, ⟨?_, ?_, ?_⟩, ?_, ?_⟩, h2.live (fun k _ _ _ => eC k (by omega)) (by rw [eC 0 (by decide)]) (fun k _ _ => eM k (by omega) (by omega) (by omega)) ?_ ?_ hb8 ⟨⟨?_, ?_, ?_⟩, fun q hq => ?_⟩ (fun q hq => ?_), ⟨?_, ?_, c3, c4, fun i hi => ?_⟩, m36⟩
      · rw [eC 1 (by decide)]; exact h1
      · rw [c27 j hj, r14 j hj]; exact d6 j hj
      · rw [c24.2]; exact d1
      · rw [c25 1 j (by decide) (by decide) (by omega), c25 2 j (by decide) (by decide) (by omega), r26 j (by omega), r27 j (by omega), r28 j (by omega), c24.1]
        exact d4 j hj
      · rw [c24.1]; exact d5
      · rw [eC 2 (by decide)]; exact h6
      · rw [e0' 16 (by decide), up2_col (by decide)]; exact h6b
      · rw [eC 3 (by decide), eM 15 (by decide) (by decide) (by decide)]; exact h6d
      · unfold BO at *; rw [eM 15 (by decide) (by decide) (by decide)]; exact h7
      · intro k hk; rw [r28 k hk]; exact b34 k hk
      · rw [eM 34 (by decide) (by decide) (by decide)]; exact b34
      · rw [eC 0 (by decide), e0' 25 (by decide), up2_col (by decide)]; exact h8'
      · have m48 : mRst (up2 T 0 2 0) 0 48 = T 0 48 := by rw [e0' 48 (by decide), up2_col (by decide)]
        refine ⟨by rw [eC 28 (by decide), m48]; exact h9.1, fun q => ?_⟩
        rw [m48] at q
        obtain ⟨o, na, ns, a1, ⟨a2, a3⟩, ⟨a4, a5⟩, a6⟩ := h9.2 q
        refine ⟨o, na, ns, ?_, ⟨?_, ?_⟩, ⟨?_, ?_⟩, ?_⟩
        · rw [eM 29 (by decide) (by decide) (by decide)]; exact a1.same (fun j _ _ => eC j (by omega))
        · rw [eM 30 (by decide) (by decide) (by decide)]; exact a2.same (eC 34 (by decide)) (eC 35 (by decide))
        · rw [e0' 49 (by decide), up2_col (by decide)]; exact a3
        · unfold SN2 at *
          rw [eC 36 (by decide), eC (36 + 1) (by decide), eC (36 + 2) (by decide), e0' 50 (by decide), up2_col (by decide), eM 31 (by decide) (by decide) (by decide), eM 32 (by decide) (by decide) (by decide), eM 34 (by decide) (by decide) (by decide)]
          exact a4
        · rw [eC 36 (by decide)]; exact a5
        · rw [eC 39 (by decide), eM 33 (by decide) (by decide) (by decide)]; exact a6
      · rw [c17 5 (by decide) (by decide)]; exact i5
      · rw [f32 35 (by decide) (by decide), u4]; exact i4.trans i5
      · rw [f32 32 (by decide) (by decide), u1, c17 6 (by decide) (by decide)]; exact i1
      · rw [f32 33 (by decide) (by decide), u2, c17 7 (by decide) (by decide)]; exact i2
      · rw [f32 34 (by decide) (by decide), u3, c17 4 (by decide) (by decide)]; exact i3
      · have q8 : q < 8 := by omega
        obtain ⟨k1, k2, k3, k4⟩ := unR_in (S := rs1 (up2 T 0 2 0)) (g := T 29) (a := 0) q8
        rw [rL 16 (by decide) (by decide), rL 17 (by decide) (by decide), rL 18 (by decide) (by decide), rL 19 (by decide) (by decide), k1, k2, k3, k4, c18 1 q (by decide) (by decide) q8, c18 2 q (by decide) (by decide) q8, c18 3 q (by decide) (by decide) q8, c18 4 q (by decide) (by decide) q8]
        exact (i6 q hq).1
      · have q8 : q < 8 := by omega
        obtain ⟨k1, k2, k3, k4⟩ := unR_in (S := rs1 (up2 T 0 2 0)) (g := T 29) (a := 0) q8
        obtain ⟨⟨m1, m2, m3, m4⟩, ⟨x, x1, x2⟩, y, y1, y2⟩ := i6 q hq
        rw [rL 16 (by decide) (by decide), rL 17 (by decide) (by decide), k1, k2]
        exact ⟨⟨x, x1, m1.trans x2⟩, y, y1, m2.trans y2⟩
      · rw [c22.1]; exact c1
      · rw [c22.2]; exact c2
      · refine (c5 i hi).congr h8 (fun j hj => ?_) (fun j hj => ?_)
        · show rstS S 23 _ = S 35 _
          exact c23 _ (by omega)
        · rw [r20 _ (by omega)]
    exact ⟨_, Pok.a rfl (fun G b d h0 hb hd => X11_restore_ok h.ri (by rw [im0]; exact c) hb (by omega)) (fun G b d h0 hb hd => X12_restore_ok c b34 hb (by omega)) (by rw [e0' 2 (by decide), up2_same]) hr⟩
/-! ===== feed ===== -/
theorem bt_i8 {y : Int32} {i : Nat} (hi : i < 8) : bt y.toInt8.toInt32 i = bt y i := by
  unfold bt
  rw [Int8.toBitVec_toInt32, Int32.toBitVec_toInt8, BitVec.getLsbD_signExtend, BitVec.getLsbD_signExtend]
  simp [hi, show i < 32 by omega]
theorem putB_255 {x : Int32} {m : Nat} (hm : m ≤ 24) : putB x (nI m) &&& 255 = (x >>> (nI m &&& 31)) &&& 255 := by
  refine b_ext (fun i hi => ?_)
  rw [b_and, b_and, b_255]
  by_cases c : i < 8
  · have e : putB x (nI m) = (((x.toUInt32 >>> ((nI m).toUInt32 &&& Int32.toUInt32 31)).toInt32).toInt8.toInt32).toInt8.toInt32 := rfl
    rw [e, bt_i8 c, bt_i8 c, b_ushr m (by omega), b_sshr m (by omega) x hi, if_pos (by omega)]
  · simp [c]
theorem fdL_in {x1 x2 x3 x4 x5 : Int32} {z : Nat} : ∀ (m k : Nat) (f : Nat → Int32) (j : Nat), fdL x1 x2 x3 x4 x5 z m k f j = if z + k ≤ j ∧ j < z + k + m then fdB x1 x2 x3 x4 x5 (j - z) else f j := by
  intro m
  induction m with
  | zero => intro k f j; rw [fdL, if_neg (by omega)]
  | succ m ih =>
    intro k f j
    rw [fdL, ih]
    by_cases c : z + k ≤ j ∧ j < z + k + (m + 1)
    · rw [if_pos c]
      by_cases e : j = z + k
      · rw [if_neg (by omega), e, updS, Nat.add_sub_cancel_left]
      · rw [if_pos (by omega)]
    · rw [if_neg c, if_neg (by omega), updN (by omega)]
theorem put4_3 {x : Int32} {k : Nat} : put4 S z x 3 k = if k = z then putB x 24 else if k = z + 1 then putB x 16 else if k = z + 2 then putB x 8 else if k = z + 3 then putB x 0 else S 3 k := by
  unfold put4 put1
  simp only [up2_row (show 3 ≠ 2 by decide)]
  by_cases e3 : k = z + 3
  · subst e3
    rw [up2_same, if_neg (by omega), if_neg (by omega), if_neg (by omega), if_pos rfl]
  · rw [up2_col e3]
    simp only [up2_row (show 3 ≠ 2 by decide)]
    by_cases e2 : k = z + 2
    · subst e2
      rw [up2_same, if_neg (by omega), if_neg (by omega), if_pos rfl]
    · rw [up2_col e2]
      simp only [up2_row (show 3 ≠ 2 by decide)]
      by_cases e1 : k = z + 1
      · subst e1
        rw [up2_same, if_neg (by omega), if_pos rfl]
      · rw [up2_col e1]
        simp only [up2_row (show 3 ≠ 2 by decide)]
        by_cases e0 : k = z
        · subst e0
          rw [up2_same, if_pos rfl]
        · rw [up2_col e0, if_neg e0, if_neg e1, if_neg e2, if_neg e3]
theorem put4_off {x : Int32} {k : Nat} (h : k ≠ 3) (h2 : k ≠ 2) : put4 S z x k = S k := by
  unfold put4 put1
  simp only [up2_row h, up2_row h2]
theorem fd_255 (x1 x2 x3 x4 x5 : Int32) (k : Nat) : ∃ c, c < 256 ∧ fdB x1 x2 x3 x4 x5 k = nI c := by
  refine lowB_in (k := 8) (fun j h1 h2 => ?_)
  unfold fdB
  rw [b_and, b_255]
  have : decide (j < 8) = false := by simp; omega
  rw [this]
  simp
def pB (x : Int32) : Nat → Int32
  | 0 => putB x 24
  | 1 => putB x 16
  | 2 => putB x 8
  | _ => putB x 0
theorem pB_255 {x : Int32} {i : Nat} (hi : i < 4) : pB x i &&& 255 = (x >>> (((24 : Int32) - 8 * nI i) &&& 31)) &&& 255 := by
  rcases (show i = 0 ∨ i = 1 ∨ i = 2 ∨ i = 3 by omega) with rfl | rfl | rfl | rfl
  · exact putB_255 (m := 24) (by decide)
  · exact putB_255 (m := 16) (by decide)
  · exact putB_255 (m := 8) (by decide)
  · exact putB_255 (m := 0) (by decide)
theorem put4_in {x : Int32} {i : Nat} (hi : i < 4) : put4 S z x 3 (z + i) = pB x i := by
  rw [put4_3]
  rcases (show i = 0 ∨ i = 1 ∨ i = 2 ∨ i = 3 by omega) with rfl | rfl | rfl | rfl
  · rw [if_pos (by omega)]; rfl
  · rw [if_neg (by omega), if_pos (by omega)]; rfl
  · rw [if_neg (by omega), if_neg (by omega), if_pos (by omega)]; rfl
  · rw [if_neg (by omega), if_neg (by omega), if_neg (by omega), if_pos (by omega)]; rfl
theorem put4_out {x : Int32} {k : Nat} (h : k < z ∨ z + 4 ≤ k) : put4 S z x 3 k = S 3 k := by
  rw [put4_3, if_neg (by omega), if_neg (by omega), if_neg (by omega), if_neg (by omega)]
theorem feed_eq {x1 x2 x3 x4 x5 : Int32} {i : Nat} (hi : i < 20) : fdB x1 x2 x3 x4 x5 i = put4 (put4 (put4 (put4 (put4 S z x1) (z + 4) x2) (z + 8) x3) (z + 12) x4) (z + 16) x5 3 (z + i) &&& 255 := by
  unfold fdB
  rcases (show i < 4 ∨ (4 ≤ i ∧ i < 8) ∨ (8 ≤ i ∧ i < 12) ∨ (12 ≤ i ∧ i < 16) ∨ (16 ≤ i ∧ i < 20) by omega) with c | c | c | c | c
  · rw [if_pos c, put4_out (by omega), put4_out (by omega), put4_out (by omega), put4_out (by omega), put4_in c, pB_255 c, Nat.mod_eq_of_lt c]
  · obtain ⟨j, rfl⟩ : ∃ j, i = 4 + j := ⟨i - 4, by omega⟩
    rw [if_neg (by omega), if_pos (by omega), put4_out (by omega), put4_out (by omega), put4_out (by omega), ← Nat.add_assoc, put4_in (by omega), pB_255 (by omega), show (4 + j) % 4 = j by omega]
  · obtain ⟨j, rfl⟩ : ∃ j, i = 8 + j := ⟨i - 8, by omega⟩
    rw [if_neg (by omega), if_neg (by omega), if_pos (by omega), put4_out (by omega), put4_out (by omega), ← Nat.add_assoc, put4_in (by omega), pB_255 (by omega), show (8 + j) % 4 = j by omega]
  · obtain ⟨j, rfl⟩ : ∃ j, i = 12 + j := ⟨i - 12, by omega⟩
    rw [if_neg (by omega), if_neg (by omega), if_neg (by omega), if_pos (by omega), put4_out (by omega), ← Nat.add_assoc, put4_in (by omega), pB_255 (by omega), show (12 + j) % 4 = j by omega]
  · obtain ⟨j, rfl⟩ : ∃ j, i = 16 + j := ⟨i - 16, by omega⟩
    rw [if_neg (by omega), if_neg (by omega), if_neg (by omega), if_neg (by omega), ← Nat.add_assoc, put4_in (by omega), pB_255 (by omega), show (16 + j) % 4 = j by omega]
theorem pr_feed (h : REL S T) (x1 x2 x3 x4 x5 : Int32) : An0 mX11_feed mX12_feed [.int x1, .int x2, .int x3, .int x4, .int x5] S T := by
  obtain ⟨s, t, n, pp, r, bb, o, na, ns, z, h⟩ := h
  have hz := h.cz
  have hs := h.hs
  obtain ⟨t1, t2, t3, t4⟩ := h.tp
  by_cases c : 680 < z
  · exact ⟨_, Pok.qe0 h rfl (fun G b d h0 hb hd => X11_feed_no t1 t3 c) (fun G b d h0 hb hd => X12_feed_no t2 c t3 x1 x2 x3 x4 x5 hb)⟩
  · refine ⟨_, Pok.a rfl (fun G b d h0 hb hd => X11_feed_ok t1 (by omega) hb (by omega)) (fun G b d h0 hb hd => X12_feed_ok t2 (by omega) x1 x2 x3 x4 x5 hb) (by rw [up2_col (by decide), upR_row (by decide), up2_same]) ?_⟩
    have eC : ∀ k, k ≠ 2 → k ≠ 3 → put4 (put4 (put4 (put4 (put4 S z x1) (z + 4) x2) (z + 8) x3) (z + 12) x4) (z + 16) x5 k = S k := fun k h2 h3 => by
      rw [put4_off h3 h2, put4_off h3 h2, put4_off h3 h2, put4_off h3 h2, put4_off h3 h2]
    have eM : ∀ k, k ≠ 0 → k ≠ 15 → up2 (upR (up2 T 0 2 0) 15 (fdL x1 x2 x3 x4 x5 z 20 0 (T 15))) 0 16 (nI (z + 20)) k = up2 T 0 2 0 k := fun k h1 h2 => by rw [up2_row h1, upR_row h2]
    have e0 : ∀ j, j ≠ 16 → up2 (upR (up2 T 0 2 0) 15 (fdL x1 x2 x3 x4 x5 z 20 0 (T 15))) 0 16 (nI (z + 20)) 0 j = up2 T 0 2 0 0 j := fun j h1 => by rw [up2_col h1, upR_row (by decide)]
    have c3 : ∀ k, k < z + 20 → fdL x1 x2 x3 x4 x5 z 20 0 (T 15) k = put4 (put4 (put4 (put4 (put4 S z x1) (z + 4) x2) (z + 8) x3) (z + 12) x4) (z + 16) x5 3 k &&& 255 := fun k hk => by
      rw [fdL_in]
      by_cases q : k < z
      · rw [if_neg (by omega), put4_out (by omega), put4_out (by omega), put4_out (by omega), put4_out (by omega), put4_out (by omega)]
        exact t4 k q
      · obtain ⟨i, rfl⟩ : ∃ i, k = z + i := ⟨k - z, by omega⟩
        rw [if_pos (by omega), Nat.add_sub_cancel_left]
        exact feed_eq (by omega)
    obtain ⟨⟨hst, h1, h4, ⟨h5, h5b⟩, -, ⟨h7, h7b, h7c⟩, h8, h9⟩, h2, h3, h3b⟩ := hz
    refine ⟨s, t, n, pp, r, bb, o, na, ns, z + 20, ⟨hst, ?_, ?_, ⟨?_, ?_⟩, ⟨?_, up2_same, by omega, fun k hk => ?_⟩, ⟨fun k hk => ?_, ?_, ?_⟩, ?_, ?_⟩, h2.live (fun k _ _ _ => eC k (by omega) (by omega)) (by rw [eC 0 (by decide) (by decide)]) (fun k _ _ => eM k (by omega) (by omega)) (by rw [eC 17 (by decide) (by decide)]; exact h2.b.1) (by rw [e0 35 (by decide)]; exact h2.b.2.1) h2.b.2.2 ?_ ?_, ?_, ?_⟩
    · rw [eC 1 (by decide) (by decide)]; exact h1
    · rw [eC 27 (by decide) (by decide), eM 14 (by decide) (by decide)]; exact h4
    · unfold SN at *
      rw [eC 24 (by decide) (by decide), eC (24 + 1) (by decide) (by decide), eC (24 + 2) (by decide) (by decide), e0 37 (by decide), eM 26 (by decide) (by decide), eM 27 (by decide) (by decide), eM 28 (by decide) (by decide)]
      exact h5
    · rw [eC 24 (by decide) (by decide)]; exact h5b
    · rw [put4_4]
    · rw [up2_row (by decide), upR_same]; exact c3 k hk
    · rw [up2_row (by decide), upR_same, fdL_in]
      split
      · exact fd_255 x1 x2 x3 x4 x5 _
      · have := h7 k hk
        rwa [up2_row (by decide)] at this
    · rw [eM 28 (by decide) (by decide)]; exact h7b
    · rw [eM 34 (by decide) (by decide)]; exact h7c
    · rw [eC 0 (by decide) (by decide), e0 25 (by decide)]; exact h8
    · unfold IMR at *
      rw [e0 48 (by decide), eC 28 (by decide) (by decide)]
      refine ⟨h9.1, fun q => ?_⟩
      obtain ⟨o, na, ns, a1, ⟨a2, a3⟩, ⟨a4, a5⟩, a6⟩ := h9.2 q
      refine ⟨o, na, ns, ?_, ⟨?_, ?_⟩, ⟨?_, ?_⟩, ?_⟩
      · rw [eM 29 (by decide) (by decide)]; exact a1.same (fun j _ _ => eC j (by omega) (by omega))
      · rw [eM 30 (by decide) (by decide)]; exact a2.same (eC 34 (by decide) (by decide)) (eC 35 (by decide) (by decide))
      · rw [e0 49 (by decide)]; exact a3
      · unfold SN2 at *
        rw [eC 36 (by decide) (by decide), eC (36 + 1) (by decide) (by decide), eC (36 + 2) (by decide) (by decide), e0 50 (by decide), eM 31 (by decide) (by decide), eM 32 (by decide) (by decide), eM 34 (by decide) (by decide)]
        exact a4
      · rw [eC 36 (by decide) (by decide)]; exact a5
      · rw [eC 39 (by decide) (by decide), eM 33 (by decide) (by decide)]; exact a6
    · have lv := h2.2.2.1
      unfold LV at *
      rw [eC 17 (by decide) (by decide), eC (17 + 1) (by decide) (by decide), eC (17 + 2) (by decide) (by decide), eC (17 + 3) (by decide) (by decide), eC (17 + 4) (by decide) (by decide), e0 32 (by decide), e0 33 (by decide), e0 34 (by decide), eM 16 (by decide) (by decide), eM 17 (by decide) (by decide), eM 18 (by decide) (by decide), eM 19 (by decide) (by decide)]
      exact lv
    · have po := h2.2.2.2.2
      unfold PO at *
      rw [eM 16 (by decide) (by decide), eM 17 (by decide) (by decide)]
      exact po
    · rw [eM 20 (by decide) (by decide)]; exact h3.same (eC 22 (by decide) (by decide)) (eC 23 (by decide) (by decide))
    · rw [e0 36 (by decide)]; exact h3b
end T8
