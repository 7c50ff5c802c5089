/-! ===== acts, on both sides ===== -/
section T5
variable {S T S' T' : Nat → Nat → Int32} {s t n pp r bb o na ns z : Nat}
theorem Pok.a {mC mM : xM} {as : List Value} {vC vM : Int32} (e : vC = vM) (kC : ∀ (G : xG) (b d : Nat) (h0 : xH), gB G ≤ b → 80 ≤ d → VM G mC d 0 0 (.ref (b + 0) :: as) (xE (some (.int vC)) (wH G b tbC S' h0)) (wH G b tbC S h0)) (kM : ∀ (G : xG) (b d : Nat) (h0 : xH), gB G ≤ b → 80 ≤ d → VM G mM d 0 0 (.ref (b + 0) :: as) (xE (some (.int vM)) (wH G b tbM T' h0)) (wH G b tbM T h0)) (hz : T' 0 2 = 0) (hr : REL S' T') : Pok mC mM as S T (some (.int vC)) := by
  subst e
  exact ⟨S', kC, fun G b d h0 hb hd => xJ_of (kM G b d h0 hb hd) ⟨rfl, hz, hr⟩⟩
theorem LV.own {q : Nat} {x : Int32} (lv : LV S T 17 pp) : LV (up2 S 18 q x) (up2 T 16 q x) 17 pp := by
  obtain ⟨l1, l2⟩ := lv
  refine ⟨?_, fun i hi => ?_⟩
  · simp (disch := decide) only [up2_row]
    exact l1
  · obtain ⟨a1, a2, a3, a4⟩ := l2 i hi
    refine ⟨?_, ?_, ?_, ?_⟩
    · show up2 T 16 q x 16 i = up2 S 18 q x 18 i
      by_cases e : i = q
      · subst e; rw [up2_same, up2_same]
      · rw [up2_col e, up2_col e]; exact a1
    · rw [up2_row (by decide), up2_row (by decide)]; exact a2
    · rw [up2_row (by decide), up2_row (by decide)]; exact a3
    · rw [up2_row (by decide), up2_row (by decide)]; exact a4
theorem LV.mis {q : Nat} {x : Int32} (lv : LV S T 17 pp) : LV (up2 S 19 q x) (up2 T 17 q x) 17 pp := by
  obtain ⟨l1, l2⟩ := lv
  refine ⟨?_, fun i hi => ?_⟩
  · simp (disch := decide) only [up2_row]
    exact l1
  · obtain ⟨a1, a2, a3, a4⟩ := l2 i hi
    refine ⟨?_, ?_, ?_, ?_⟩
    · rw [up2_row (by decide), up2_row (by decide)]; exact a1
    · show up2 T 17 q x 17 i = up2 S 19 q x 19 i
      by_cases e : i = q
      · subst e; rw [up2_same, up2_same]
      · rw [up2_col e, up2_col e]; exact a2
    · rw [up2_row (by decide), up2_row (by decide)]; exact a3
    · rw [up2_row (by decide), up2_row (by decide)]; exact a4
theorem LV.dny {x : Int32} (lv : LV S T 17 pp) : LV (up2 S 17 4 x) (up2 T 0 34 x) 17 pp := by
  obtain ⟨⟨l0, l1, l2⟩, l3⟩ := lv
  refine ⟨⟨?_, ?_, ?_⟩, fun i hi => ?_⟩
  · rw [up2_col (by decide), up2_col (by decide)]; exact l0
  · rw [up2_col (by decide), up2_col (by decide)]; exact l1
  · rw [up2_same, up2_same]
  · simp (disch := decide) only [up2_row]
    exact l3 i hi
theorem LV.brd {x : Int32} (lv : LV S T 17 pp) : LV (up2 S 17 5 x) (up2 T 0 35 x) 17 pp := by
  obtain ⟨⟨l0, l1, l2⟩, l3⟩ := lv
  refine ⟨⟨?_, ?_, ?_⟩, fun i hi => ?_⟩
  · rw [up2_col (by decide), up2_col (by decide)]; exact l0
  · rw [up2_col (by decide), up2_col (by decide)]; exact l1
  · rw [up2_col (by decide), up2_col (by decide)]; exact l2
  · simp (disch := decide) only [up2_row]
    exact l3 i hi
theorem xor_ok : ∀ a, a < 1024 → ∀ g, g < 10 → (nI a ^^^ 1 <<< (nI g &&& 31)).toNatClampNeg < 1024 ∧ nI a ^^^ 1 <<< (nI g &&& 31) = nI (nI a ^^^ 1 <<< (nI g &&& 31)).toNatClampNeg := by decide +kernel
theorem PO.own {q : Nat} {x : Int32} (po : PO T pp) (hx : ∃ a, a < 1024 ∧ x = nI a) : PO (up2 T 16 q x) pp := fun i hi => by
  rw [up2_row (show 17 ≠ 16 by decide)]
  refine ⟨?_, (po i hi).2⟩
  by_cases e : i = q
  · subst e; rw [up2_same]; exact hx
  · rw [up2_col e]; exact (po i hi).1
theorem PO.mis {q : Nat} {x : Int32} (po : PO T pp) (hx : ∃ a, a < 10 ∧ x = nI a) : PO (up2 T 17 q x) pp := fun i hi => by
  rw [up2_row (show 16 ≠ 17 by decide)]
  refine ⟨(po i hi).1, ?_⟩
  by_cases e : i = q
  · subst e; rw [up2_same]; exact hx
  · rw [up2_col e]; exact (po i hi).2
theorem mKp_off {k : Nat} (h : k ≠ 0) (h2 : k ≠ 20) : mKeep T na k = T k := by unfold mKeep; rw [up2_row h, upR_row h2]
theorem mKp_0 {j : Nat} (h : j ≠ 36) : mKeep T na 0 j = T 0 j := by unfold mKeep; rw [up2_col h, upR_row (by decide)]
theorem Rq.b (h : Rq S T s n pp r bb) : S 17 5 = nI bb ∧ T 0 35 = nI bb ∧ bb ≤ 8 := ⟨h.1.2.2.2.2.2.2.2.2.1, h.2.2.2.1.2.2.2.2.2.2.2.2.1, h.2.2.2.1.2.2.2.2.2.2.2.2.2⟩
/-- one place of what stands is changed on both sides, behind a keep -/
theorem put_REL {k k' j j' : Nat} {x : Int32} {bb' : Nat} (h : RELp S T s t n pp r bb o na ns z) (hk : 17 ≤ k ∧ k ≤ 21) (hk' : (16 ≤ k' ∧ k' ≤ 19) ∨ (k' = 0 ∧ 32 ≤ j' ∧ j' ≤ 35)) (rq : Rq (up2 (actKeep S 22 17 o na) k j x) (up2 (mKeep T na) k' j' x) s n pp r bb') : REL (up2 (actKeep S 22 17 o na) k j x) (up2 (mKeep T na) k' j' x) := by
  refine act_REL h (fun i _ h2 _ _ => ?_) (fun i _ => ?_) ?_ ?_ (mKeep_X.trans (tX.up (by omega))) ?_ ?_ rq
  · rw [up2_row (by omega), actKeep_off (by omega) (by omega)]
  · rw [up2_row (by omega), actKeep_off (by decide) (by decide)]
  · rw [up2_row (by omega)]
  · rw [up2_row (by omega)]
  · rw [up2_row (by omega)]
  · rcases hk' with e | ⟨rfl, e1, e2⟩
    · rw [up2_row (by omega)]
    · rw [up2_col (by omega)]
theorem pr_has (h : REL S T) (x y : Int32) {v : Int32} (hv : v = 0 ∨ v = 1) : AnN mX11_has mX12_has [.int x, .int y, .int v] S T := by
  obtain ⟨s, t, n, pp, r, bb, o, na, ns, z, h⟩ := h
  have hz := h.cz
  have hs := h.hs
  have h8 : pp ≤ 8 := h.mi.2.2.2.2.1
  rcases rngp (x := x) pp (by omega) with hx | ⟨q, hq, rfl⟩
  · exact Or.inr (Pth.q h (fun G b d h0 hb hd => X11_has_bad1 h.ri.1 h.ri.2.2.2.2.1 h8 hx (by omega)) (fun G b d h0 hb hd => X12_has_bad1 h.mi.2.2.2.1 h8 (Or.inl (outp (by omega) hx)) hb (by omega)))
  · rcases th10 y with hx | ⟨g, hg, rfl⟩
    · exact Or.inr (Pth.q h (fun G b d h0 hb hd => X11_has_bad2 h.ri.1 h.ri.2.2.2.2.1 h8 hq hx (by omega)) (fun G b d h0 hb hd => X12_has_bad1 h.mi.2.2.2.1 h8 (Or.inr (out10 hx)) hb (by omega)))
    · have e : S 18 q = T 16 q := (h.rq.own hq).1
      left
      by_cases c : b2i (hasB (S 18 q) (nI g)) = v
      · exact ⟨_, Pok.a rfl (fun G b d h0 hb hd => X11_has_no h.ri hq hg c hb (by omega)) (fun G b d h0 hb hd => X12_has_no h.mi hq hg (by rw [← e]; exact c) hb (by omega)) (by rw [up2_row (by decide), up2_same]) (st_REL (by decide) hz)⟩
      · have eM : mKeep (up2 T 0 2 0) na 16 q = S 18 q := by rw [mKp_off (by decide) (by decide), up2_row (by decide), e]
        refine ⟨_, Pok.a ?_ (fun G b d h0 hb hd => X11_has_ok h.ri hq hg c h.ac.1.1 h.ac.1.2.1 h.ac.1.2.2.1 h.ac.1.2.2.2.1 hb (by omega)) (fun G b d h0 hb hd => X12_has_ok h.mi hq hg (by rw [← e]; exact c) h.ac.2 h.ac.1.2.2.2.1 hb (by omega)) (by rw [up2_row (by decide), mKp_0 (by decide), up2_same]) ?_⟩
        · rw [eM]
        · rw [eM]
          have kq := keep_Rq (o := o) (na := na) hs hz.rq
          obtain ⟨⟨a, a1, a2⟩, -⟩ := h.po q hq
          have ax := xor_ok a a1 g hg
          refine put_REL hz (by decide) (by omega) (kq.live (fun k _ _ _ => up2_row (by omega)) (by rw [up2_row (by decide)]) (fun k _ _ => up2_row (by omega)) (by rw [up2_row (by decide)]; exact kq.b.1) (by rw [up2_row (by decide)]; exact kq.b.2.1) kq.b.2.2 kq.2.2.1.own (kq.2.2.2.2.own ⟨_, ax.1, ?_⟩))
          rw [e, a2]
          exact ax.2
theorem pr_miss (h : REL S T) (x y : Int32) : AnN mX11_miss mX12_miss [.int x, .int y] S T := by
  obtain ⟨s, t, n, pp, r, bb, o, na, ns, z, h⟩ := h
  have hz := h.cz
  have hs := h.hs
  have h8 : pp ≤ 8 := h.mi.2.2.2.2.1
  rcases rngp (x := x) pp (by omega) with hx | ⟨q, hq, rfl⟩
  · exact Or.inr (Pth.q h (fun G b d h0 hb hd => X11_miss_bad1 h.ri.1 h.ri.2.2.2.2.1 h8 hx (by omega)) (fun G b d h0 hb hd => X12_miss_bad1 h.mi.2.2.2.1 h8 (Or.inl (outp (by omega) hx)) hb (by omega)))
  · rcases th10 y with hx | ⟨g, hg, rfl⟩
    · exact Or.inr (Pth.q h (fun G b d h0 hb hd => X11_miss_bad2 h.ri.1 h.ri.2.2.2.2.1 h8 hq hx (by omega)) (fun G b d h0 hb hd => X12_miss_bad1 h.mi.2.2.2.1 h8 (Or.inr (out10 hx)) hb (by omega)))
    · have e : S 19 q = T 17 q := (h.rq.own hq).2.1
      left
      by_cases c : S 19 q = nI g
      · exact ⟨_, Pok.a rfl (fun G b d h0 hb hd => X11_miss_no h.ri hq hg c hb (by omega)) (fun G b d h0 hb hd => X12_miss_no h.mi hq hg (by rw [← e]; exact c) hb (by omega)) (by rw [up2_row (by decide), up2_same]) (st_REL (by decide) hz)⟩
      · have kq := keep_Rq (o := o) (na := na) hs hz.rq
        refine ⟨_, Pok.a ?_ (fun G b d h0 hb hd => X11_miss_ok h.ri hq hg c h.ac.1.1 h.ac.1.2.1 h.ac.1.2.2.1 h.ac.1.2.2.2.1 hb (by omega)) (fun G b d h0 hb hd => X12_miss_ok h.mi hq hg (by rw [← e]; exact c) h.ac.2 h.ac.1.2.2.2.1 hb (by omega)) (by rw [up2_row (by decide), mKp_0 (by decide), up2_same]) ?_⟩
        · rw [mKp_off (by decide) (by decide), up2_row (by decide), e]
        · exact put_REL hz (by decide) (by omega) (kq.live (fun k _ _ _ => up2_row (by omega)) (by rw [up2_row (by decide)]) (fun k _ _ => up2_row (by omega)) (by rw [up2_row (by decide)]; exact kq.b.1) (by rw [up2_row (by decide)]; exact kq.b.2.1) kq.b.2.2 kq.2.2.1.mis (kq.2.2.2.2.mis ⟨g, hg, rfl⟩))
theorem pr_deny (h : REL S T) (x : Int32) {v : Int32} (hv : v = 0 ∨ v = 1) : AnN mX11_deny mX12_deny [.int x, .int v] S T := by
  obtain ⟨s, t, n, pp, r, bb, o, na, ns, z, h⟩ := h
  have hz := h.cz
  have hs := h.hs
  have h12 : n ≤ 12 := h.mi.2.1
  rcases rngp (x := x) n h12 with hx | ⟨q, hq, rfl⟩
  · exact Or.inr (Pth.q h (fun G b d h0 hb hd => X11_deny_bad1 h.ri.1 h.ri.2.1 h12 hx (by omega)) (fun G b d h0 hb hd => X12_deny_bad1 h.mi.1 h12 (outp h12 hx) hb (by omega)))
  · have e : S 17 4 = T 0 34 := h.rq.dn
    left
    by_cases c : b2i (hasB (S 17 4) (nI q)) = v
    · exact ⟨_, Pok.a rfl (fun G b d h0 hb hd => X11_deny_no h.ri hq c hb (by omega)) (fun G b d h0 hb hd => X12_deny_no h.mi hq (by rw [← e]; exact c) hb (by omega)) (by rw [up2_row (by decide), up2_same]) (st_REL (by decide) hz)⟩
    · have eM : mKeep (up2 T 0 2 0) na 0 34 = S 17 4 := by rw [mKp_0 (by decide), up2_col (by decide), e]
      have kq := keep_Rq (o := o) (na := na) hs hz.rq
      refine ⟨_, Pok.a rfl (fun G b d h0 hb hd => X11_deny_ok h.ri hq c h.ac.1.1 h.ac.1.2.1 h.ac.1.2.2.1 h.ac.1.2.2.2.1 hb (by omega)) (fun G b d h0 hb hd => X12_deny_ok h.mi hq (by rw [← e]; exact c) h.ac.2 h.ac.1.2.2.2.1 hb (by omega)) (by rw [up2_col (by decide), mKp_0 (by decide), up2_same]) ?_⟩
      rw [eM]
      exact put_REL hz (by decide) (by omega) (kq.live (fun k _ _ _ => up2_row (by omega)) (by rw [up2_row (by decide)]) (fun k _ _ => up2_row (by omega)) (by rw [up2_col (by decide)]; exact kq.b.1) (by rw [up2_col (by decide)]; exact kq.b.2.1) kq.b.2.2 kq.2.2.1.dny kq.2.2.2.2.cz)
theorem pr_bridge (h : REL S T) (x : Int32) : An0 mX11_bridge mX12_bridge [.int x] S T := by
  obtain ⟨s, t, n, pp, r, bb, o, na, ns, z, h⟩ := h
  have hz := h.cz
  have hs := h.hs
  rcases rng (x := x) (l' := 1) (m' := 8) 1 8 rfl rfl (by decide) (by decide) with hx | ⟨k, hk1, hk, rfl⟩
  · exact ⟨_, Pok.a rfl (fun G b d h0 hb hd => X11_bridge_no h.ri hx hb (by omega)) (fun G b d h0 hb hd => X12_bridge_no (inR_out hx) hb (by omega)) (by rw [up2_row (by decide), up2_same]) (st_REL (by decide) hz)⟩
  · have kq := keep_Rq (o := o) (na := na) hs hz.rq
    refine ⟨_, Pok.a ?_ (fun G b d h0 hb hd => X11_bridge_ok h.ri hk1 hk h.ac.1.1 h.ac.1.2.1 h.ac.1.2.2.1 h.ac.1.2.2.2.1 hb (by omega)) (fun G b d h0 hb hd => X12_bridge_ok hk1 hk h.ac.2 h.ac.1.2.2.2.1 hb (by omega)) (by rw [up2_col (by decide), mKp_0 (by decide), up2_same]) ?_⟩
    · rw [mKp_0 (by decide), up2_col (by decide), h.b.1, h.b.2.1]
    · exact put_REL (bb' := k) hz (by decide) (by omega) (kq.live (fun k _ _ _ => up2_row (by omega)) (by rw [up2_row (by decide)]) (fun k _ _ => up2_row (by omega)) up2_same up2_same hk kq.2.2.1.brd kq.2.2.2.2.cz)
/-! ===== SUNDAYS as an act ===== -/
theorem sunN_off {k : Nat} (h : k ≠ 18) (h2 : k ≠ 19) (h3 : k ≠ 21) (h4 : k ≠ 22) (h5 : k ≠ 0) : ∀ (m : Nat) (T : Nat → Nat → Int32), mSunN n r pp bb m T k = T k := by
  intro m
  induction m with
  | zero => intro T; rfl
  | succ m ih => intro T; rw [mSunN, ih, mSun_off h h2 h3 h4 h5]
theorem sunN_0 {j : Nat} (h1 : j ≠ 32) (h2 : j ≠ 33) (h3 : j ≠ 40) : ∀ (m : Nat) (T : Nat → Nat → Int32), mSunN n r pp bb m T 0 j = T 0 j := by
  intro m
  induction m with
  | zero => intro T; rfl
  | succ m ih => intro T; rw [mSunN, ih, mSun_0 h1 h2 h3]
theorem sunN_PO : ∀ (m : Nat) (T : Nat → Nat → Int32), PO T pp → PO (mSunN n r pp bb m T) pp := by
  intro m
  induction m with
  | zero => intro T h; exact h
  | succ m ih => intro T h; rw [mSunN]; exact ih _ h.sun
theorem stCp_v {W : Nat → Nat → Int32} : stCp W 17 58 17 4 = W 58 4 ∧ stCp W 17 58 17 5 = W 58 5 ∧ stCp W 17 58 17 6 = W 58 6 ∧ stCp W 17 58 17 7 = W 58 7 := by
  unfold stCp
  simp (disch := decide) only [up2_same, up2_col, and_self]
theorem stCp_q {W : Nat → Nat → Int32} {q : Nat} (hq : q < 8) : stCp W 17 58 (17 + 1) q = W 59 q ∧ stCp W 17 58 (17 + 2) q = W 60 q ∧ stCp W 17 58 (17 + 3) q = W 61 q ∧ stCp W 17 58 (17 + 4) q = W 62 q := by
  unfold stCp st4
  simp (disch := decide) only [up2_row, upR_row, upR_same]
  rw [cpy_at0 hq, cpy_at0 hq, cpy_at0 hq, cpy_at0 hq]
  exact ⟨rfl, rfl, rfl, rfl⟩
theorem pr_sundays (h : REL S T) (x : Int32) : An0 mX11_sundays mX12_sundays [.int x] S T := by
  obtain ⟨s, t, n, pp, r, bb, o, na, ns, z, h⟩ := h
  have hz := h.cz
  have hs := h.hs
  have h8 : pp ≤ 8 := h.mi.2.2.2.2.1
  have e6 : S 17 6 = T 0 32 := h.rq.2.2.1.1.1.symm
  have no : ∀ (hx : x < 1 ∨ 20 < x ∨ 999 < S 17 6 + x), An0 mX11_sundays mX12_sundays [.int x] S T := fun hx => by
    refine ⟨_, Pok.a rfl (fun G b d h0 hb hd => X11_sundays_no h.ri hx hb (by omega)) (fun G b d h0 hb hd => X12_sundays_no ?_ hb (by omega)) (by rw [up2_row (by decide), up2_same]) (st_REL (by decide) hz)⟩
    rcases hx with q | q | q
    · exact Or.inl (inR_out (Or.inl q))
    · exact Or.inl (inR_out (Or.inr q))
    · exact Or.inr (by rw [← e6]; exact q)
  rcases rng (x := x) (l' := 1) (m' := 20) 1 20 rfl rfl (by decide) (by decide) with hx | ⟨k, hk1, hk, rfl⟩
  · exact no (hx.elim Or.inl (fun q => Or.inr (Or.inl q)))
  · by_cases c : 999 < S 17 6 + nI k
    · exact no (Or.inr (Or.inr c))
    · have c9 : S 17 6 + nI k ≤ 999 := Int32.not_lt.mp c
      have kq := keep_Rq (o := o) (na := na) hs hz.rq
      have w := begin_WR hs kq
      rw [show actKeep S 22 17 o na 0 9 = S 0 9 by rw [actKeep_off (by decide) (by decide)]] at w
      have nw := n_WR hs k _ _ w kq.2.2.2.1 kq.2.2.2.2
      have sm : Wsm s (actKeep S 22 17 o na) (wkN s r pp bb k (wkBegin (actKeep S 22 17 o na) (S 0 9) n pp)) := wkBegin_sm.trans (wkN_sm _ _)
      refine ⟨_, Pok.a nw.2.2.1.1.symm (fun G b d h0 hb hd => X11_sundays_ok h.ri hk1 hk c9 h.ac.1.1 h.ac.1.2.1 h.ac.1.2.2.1 h.ac.1.2.2.2.1 hb (by omega)) (fun G b d h0 hb hd => X12_sundays_ok h.mi h.po hk1 hk (by rw [← e6]; exact c9) h.ac.2 h.ac.1.2.2.2.1 hb (by omega)) (by rw [sunN_0 (by decide) (by decide) (by decide), mKp_0 (by decide), up2_same]) ?_⟩
      generalize wkN s r pp bb k (wkBegin (actKeep S 22 17 o na) (S 0 9) n pp) = W at nw sm ⊢
      obtain ⟨v4, v5, v6, v7⟩ := stCp_v (W := W)
      refine act_REL (bb' := bb) hz (fun i _ h2 h3 h4 => ?_) (fun i _ => ?_) ?_ ?_ (mKeep_X.trans ⟨fun k hk => sunN_off (by omega) (by omega) (by omega) (by omega) (by omega) _ _, fun j hj => sunN_0 (by omega) (by omega) (by omega) _ _⟩) ?_ ?_ (kq.live (fun i _ _ h3 => ?_) ?_ (fun i _ _ => sunN_off (by omega) (by omega) (by omega) (by omega) (by omega) _ _) ?_ ?_ kq.b.2.2 ⟨?_, fun q hq => ?_⟩ (sunN_PO _ _ kq.2.2.2.2))
      · rw [stCp_off (by omega), sm i h4 h3, actKeep_off (by omega) (by omega)]
      · rw [stCp_off (by omega), sm 0 (by omega) (by omega), actKeep_off (by decide) (by decide)]
      · rw [stCp_off (by omega), sm 22 (by omega) (by omega)]
      · rw [stCp_off (by omega), sm 23 (by omega) (by omega)]
      · rw [sunN_off (by decide) (by decide) (by decide) (by decide) (by decide)]
      · rw [sunN_0 (by decide) (by decide) (by decide)]
      · rw [stCp_off (by omega), sm i (by omega) (by omega)]
      · rw [stCp_off (by omega), sm 0 (by omega) (by omega)]
      · rw [v5]; exact nw.1.2.2.2
      · rw [sunN_0 (by decide) (by decide) (by decide)]; exact kq.b.2.1
      · rw [v4, v6, v7]; exact nw.2.2.1
      · obtain ⟨q1, q2, q3, q4⟩ := stCp_q (W := W) (q := q) (by omega)
        rw [q1, q2, q3, q4]
        exact nw.2.2.2.1 q hq
/-! ===== undo ===== -/
theorem stRd_v {a : Nat} : stRd S 17 23 a 17 4 = S 23 (a + 32) ∧ stRd S 17 23 a 17 5 = S 23 (a + 33) ∧ stRd S 17 23 a 17 6 = S 23 (a + 34) ∧ stRd S 17 23 a 17 7 = S 23 (a + 35) := by
  unfold stRd
  simp (disch := decide) only [up2_same, up2_col, and_self]
theorem cpy_at1 {f g : Nat → Int32} {sp m j : Nat} (h : j < m) : va_cpy f g sp 0 m j = f (sp + j) := by
  have := cpy_at (f := f) (g := g) (sp := sp) (dp := 0) h
  rwa [Nat.zero_add] at this
theorem stRd_q {a q : Nat} (hq : q < 8) : stRd S 17 23 a (17 + 1) q = S 23 (a + q) ∧ stRd S 17 23 a (17 + 2) q = S 23 (a + 8 + q) ∧ stRd S 17 23 a (17 + 3) q = S 23 (a + 16 + q) ∧ stRd S 17 23 a (17 + 4) q = S 23 (a + 24 + q) := by
  unfold stRd
  simp (disch := decide) only [up2_row, upR_row, upR_same]
  rw [cpy_at1 hq, cpy_at1 hq, cpy_at1 hq, cpy_at1 hq]
  exact ⟨rfl, rfl, rfl, rfl⟩
theorem pr_undo (h : REL S T) : An0 mX11_undo mX12_undo [] S T := by
  obtain ⟨s, t, n, pp, r, bb, o, na, ns, z, h⟩ := h
  have hz := h.cz
  have hs := h.hs
  have h8 : pp ≤ 8 := h.mi.2.2.2.2.1
  obtain ⟨⟨a1, a2, a3, a4, a5⟩, a6⟩ := h.ac
  cases na with
  | zero => exact ⟨_, Pok.qe0 h rfl (fun G b d h0 hb hd => X11_undo_no h.ri a2 hb (by omega)) (fun G b d h0 hb hd => X12_undo_no a6 hb (by omega))⟩
  | succ na =>
    obtain ⟨⟨w1, w2, w3, w4, bb', hv8, w5⟩, w6⟩ := a5 na (by omega)
    refine ⟨_, Pok.a rfl (fun G b d h0 hb hd => X11_undo_ok h.ri a1 a2 a3 (by omega) hb (by omega)) (fun G b d h0 hb hd => X12_undo_ok a6 (by omega) hb (by omega)) (by rw [unR_0 (by decide), up2_col (by decide), up2_same]) ?_⟩
    have r23 : up2 S 22 2 (nI na) 23 = S 23 := up2_row (by decide)
    obtain ⟨v4, v5, v6, v7⟩ := stRd_v (S := up2 S 22 2 (nI na)) (a := (o + na) % 40 * 36)
    obtain ⟨u1, u2, u3, u4⟩ := unR_b (S := up2 (up2 T 0 2 0) 0 36 (nI na)) (g := T 20) (a := 36 * na)
    rw [r23] at v4 v5 v6 v7
    unfold actBack
    refine ⟨s, t, n, pp, r, bb', o, na, ns, z, hz.1.same (fun k hk => ?_) ?_ ⟨fun k hk => ?_, fun j hj => ?_⟩, hz.rq.live (fun k _ _ _ => ?_) ?_ (fun k _ _ => ?_) ?_ ?_ hv8 ⟨⟨?_, ?_, ?_⟩, fun q hq => ?_⟩ (fun q hq => ?_), ⟨?_, ?_, a3, by omega, fun i hi => ?_⟩, ?_⟩
    · rw [stRd_off (by omega), up2_row (by omega)]
    · rw [stRd_off (by decide), up2_row (by decide)]
    · rw [unR_off (by omega) (by omega), up2_row (by omega)]
    · rw [unR_0 (by omega), up2_col (by omega)]
    · rw [stRd_off (by omega), up2_row (by omega)]
    · rw [stRd_off (by decide), up2_row (by decide)]
    · rw [unR_off (by omega) (by omega), up2_row (by omega)]
    · rw [v5]; exact w5
    · rw [u4, w4]; exact w5
    · rw [u1, v6]; exact w1
    · rw [u2, v7]; exact w2
    · rw [u3, v4]; exact w3
    · obtain ⟨q1, q2, q3, q4⟩ := stRd_q (S := up2 S 22 2 (nI na)) (a := (o + na) % 40 * 36) (q := q) (by omega)
      obtain ⟨i1, i2, i3, i4⟩ := unR_in (S := up2 (up2 T 0 2 0) 0 36 (nI na)) (g := T 20) (a := 36 * na) (q := q) (by omega)
      rw [q1, q2, q3, q4, i1, i2, i3, i4, r23]
      exact (w6 q hq).1
    · obtain ⟨i1, i2, i3, i4⟩ := unR_in (S := up2 (up2 T 0 2 0) 0 36 (nI na)) (g := T 20) (a := 36 * na) (q := q) (by omega)
      obtain ⟨⟨k1, k2, k3, k4⟩, ⟨x, x1, x2⟩, y, y1, y2⟩ := w6 q hq
      rw [i1, i2]
      exact ⟨⟨x, x1, k1.trans x2⟩, y, y1, k2.trans y2⟩
    · rw [stRd_off (by decide), up2_col (by decide)]; exact a1
    · rw [stRd_off (by decide), up2_same]
    · rw [stRd_off (by decide), up2_row (by decide), unR_off (by decide) (by decide), up2_row (by decide), up2_row (by decide)]
      exact a5 i (by omega)
    · rw [unR_0 (by decide), up2_same]
end T5
