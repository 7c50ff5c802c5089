/-! ===== class and model answer questions alike ===== -/
section T3
variable {S T : Nat → Nat → Int32} {s t n pp r bb o na ns z : Nat}
def An0 (mC mM : xM) (as : List Value) (S T : Nat → Nat → Int32) : Prop := ∃ v : Int32, Pok mC mM as S T (some (.int v))
def AnN (mC mM : xM) (as : List Value) (S T : Nat → Nat → Int32) : Prop := (∃ v : Int32, Pok mC mM as S T (some (.int v))) ∨ Pth mC mM as S T NSE 1
def AnI (mC mM : xM) (as : List Value) (S T : Nat → Nat → Int32) : Prop := (∃ v : Int32, Pok mC mM as S T (some (.int v))) ∨ Pth mC mM as S T IAE 1
def AnB (mC mM : xM) (as : List Value) (S T : Nat → Nat → Int32) : Prop := (∃ v : Int32, Pok mC mM as S T (some (.int v))) ∨ Pth mC mM as S T NSE 1 ∨ Pth mC mM as S T IAE 2
theorem RELp.cz (h : RELp S T s t n pp r bb o na ns z) : RELp S (up2 T 0 2 0) s t n pp r bb o na ns z := h.same cS.rfl' tS.c0.1
theorem ends_eq (h : Rq S T s n pp r bb) : (endF (S (s + 3)) (S 17 4) n 0 0 &&& (endF (fun i => (1 : Int32) <<< (S (s + 5) i &&& 31)) (S 17 4) n 0 0 ^^^ (-1 : Int32)) : Int32) = (endF (T 10) (T 0 34) n 0 0 &&& (endF (fun i => (1 : Int32) <<< (T 12 i &&& 31)) (T 0 34) n 0 0 ^^^ (-1 : Int32)) : Int32) := by
  rw [h.dn, endF_congr (g := T 10) n 0 0 (fun j _ hj => (h.2.1.1 j (by omega)).1.1), endF_congr (f := fun i => (1 : Int32) <<< (S (s + 5) i &&& 31)) (g := fun i => (1 : Int32) <<< (T 12 i &&& 31)) n 0 0 (fun j _ hj => by rw [(h.2.1.1 j (by omega)).1.2.2.1])]
theorem tel_low {q : Nat} : lowB (mTel T n ns q) 10 := fun j h1 h2 => by
  unfold mTel
  rw [b_colB 10 0 0 j (by decide) h2, b_0]
  have : decide (j < 0 + 10) = false := by simp; omega
  rw [this]
  simp

theorem pr_count (h : REL S T) (x : Int32) : AnN mX11_count mX12_count [.int x] S T := by
  obtain ⟨s, t, n, pp, r, bb, o, na, ns, z, h⟩ := h
  have hz := h.cz
  have h8 : pp ≤ 8 := h.mi.2.2.2.2.1
  rcases rng (x := x) (l' := 0) (m' := 14) 0 14 rfl rfl (by decide) (by decide) with hx | ⟨k, hk1, hk, rfl⟩
  · exact Or.inr (Pth.q h (fun G b d h0 hb hd => X11_count_bad h.ri hx hb (by omega)) (fun G b d h0 hb hd => X12_count_bad hx hb (by omega)))
  · refine Or.inl ?_
    rcases (show k = 0 ∨ k = 1 ∨ k = 2 ∨ k = 3 ∨ k = 4 ∨ k = 5 ∨ k = 6 ∨ k = 7 ∨ k = 8 ∨ k = 9 ∨ k = 10 ∨ k = 11 ∨ k = 12 ∨ k = 13 ∨ k = 14 by omega) with rfl | rfl | rfl | rfl | rfl | rfl | rfl | rfl | rfl | rfl | rfl | rfl | rfl | rfl | rfl
    · exact ⟨_, Pok.qe0 h (h.ri.2.2.2.2.1.trans hz.mi.2.2.2.1.symm) (fun G b d h0 hb hd => X11_count_0 h.ri hb (by omega)) (fun G b d h0 hb hd => X12_count_0 h.mi hb (by omega))⟩
    · exact ⟨_, Pok.qe0 h (h.ri.2.1.trans hz.mi.1.symm) (fun G b d h0 hb hd => X11_count_1 h.ri hb (by omega)) (fun G b d h0 hb hd => X12_count_1 h.mi hb (by omega))⟩
    · exact ⟨_, Pok.qe0 h (h.ri.2.2.2.2.2.2.2.2.1.trans hz.mi.2.2.2.2.2.2.2.2.1.symm) (fun G b d h0 hb hd => X11_count_2 h.ri hb (by omega)) (fun G b d h0 hb hd => X12_count_2 h.mi hb (by omega))⟩
    · exact ⟨_, Pok.qe0 h (hz.rq.2.2.1.1.1.symm) (fun G b d h0 hb hd => X11_count_3 h.ri hb (by omega)) (fun G b d h0 hb hd => X12_count_3 h.mi hb (by omega))⟩
    · exact ⟨_, Pok.qe0 h (hz.rq.2.2.1.1.2.1.symm) (fun G b d h0 hb hd => X11_count_4 h.ri hb (by omega)) (fun G b d h0 hb hd => X12_count_4 h.mi hb (by omega))⟩
    · exact ⟨_, Pok.qe0 h (hz.rq.2.2.1.1.2.2.symm) (fun G b d h0 hb hd => X11_count_5 h.ri hb (by omega)) (fun G b d h0 hb hd => X12_count_5 h.mi hb (by omega))⟩
    · exact ⟨_, Pok.qe h (idle_eq hz.rq) (fun G b d h0 hb hd => X11_count_6 h.ri hb (by omega)) (fun G b d h0 hb hd => X12_count_6 h.mi hb (by omega)) (cS.row (by decide)) tS.c0⟩
    · exact ⟨_, Pok.qe0 h (ends_eq hz.rq) (fun G b d h0 hb hd => X11_count_7 h.ri hb (by omega)) (fun G b d h0 hb hd => X12_count_7 h.mi hb (by omega))⟩
    · exact ⟨_, Pok.qe0 h (by rw [led_eq hz.rq.2.1.1 hz.rq.dn]) (fun G b d h0 hb hd => X11_count_8 h.ri hb (by omega)) (fun G b d h0 hb hd => X12_count_8 h.mi hb (by omega))⟩
    · exact ⟨_, Pok.qe0 h (h.ac.1.2.1.trans hz.ac.2.symm) (fun G b d h0 hb hd => X11_count_9 h.ri hb (by omega)) (fun G b d h0 hb hd => X12_count_9 h.mi hb (by omega))⟩
    · exact ⟨_, Pok.qe0 h (h.sn.1.trans hz.sn.2.1.symm) (fun G b d h0 hb hd => X11_count_10 h.ri hb (by omega)) (fun G b d h0 hb hd => X12_count_10 h.mi hb (by omega))⟩
    · exact ⟨_, Pok.qe0 h (h.tp.1.trans hz.tp.2.1.symm) (fun G b d h0 hb hd => X11_count_11 h.ri hb (by omega)) (fun G b d h0 hb hd => X12_count_11 h.mi hb (by omega))⟩
    · exact ⟨_, Pok.qe0 h (hz.st 0 (by decide)) (fun G b d h0 hb hd => X11_count_12 h.ri hb (by omega)) (fun G b d h0 hb hd => X12_count_12 h.mi hb (by omega))⟩
    · exact ⟨_, Pok.qe0 h (hz.st 1 (by decide)) (fun G b d h0 hb hd => X11_count_13 h.ri hb (by omega)) (fun G b d h0 hb hd => X12_count_13 h.mi hb (by omega))⟩
    · exact ⟨_, Pok.qe0 h (hz.st 2 (by decide)) (fun G b d h0 hb hd => X11_count_14 h.ri hb (by omega)) (fun G b d h0 hb hd => X12_count_14 h.mi hb (by omega))⟩

theorem pr_worth (h : REL S T) (x : Int32) : AnN mX11_worth mX12_worth [.int x] S T := by
  obtain ⟨s, t, n, pp, r, bb, o, na, ns, z, h⟩ := h
  have hz := h.cz
  have h8 : pp ≤ 8 := h.mi.2.2.2.2.1
  rcases th10 x with hx | ⟨q, hq, rfl⟩
  · exact Or.inr (Pth.q h (fun G b d h0 hb hd => X11_worth_bad1 hx (by omega)) (fun G b d h0 hb hd => X12_worth_bad1 (out10 hx) hb (by omega)))
  · exact Or.inl ⟨_, Pok.qe0 h (hz.rq.2.1.2.1 q hq) (fun G b d h0 hb hd => X11_worth h.ri hq hb (by omega)) (fun G b d h0 hb hd => X12_worth hq hb (by omega))⟩

theorem pr_conditional (h : REL S T) (x y : Int32) : AnN mX11_conditional mX12_conditional [.int x, .int y] S T := by
  obtain ⟨s, t, n, pp, r, bb, o, na, ns, z, h⟩ := h
  have hz := h.cz
  have h8 : pp ≤ 8 := h.mi.2.2.2.2.1
  have h12 : n ≤ 12 := h.mi.2.1
  rcases rngp (x := x) n h12 with hx | ⟨q, hq, rfl⟩
  · exact Or.inr (Pth.q h (fun G b d h0 hb hd => X11_conditional_bad1 h.ri.1 h.ri.2.1 h12 hx (by omega)) (fun G b d h0 hb hd => X12_conditional_bad1 h.mi.1 h12 (outp h12 hx) hb (by omega)))
  · rcases rng (x := y) (l' := 0) (m' := 4) 0 4 rfl rfl (by decide) (by decide) with hx | ⟨k, hk1, hk, rfl⟩
    · exact Or.inr (Pth.q h (fun G b d h0 hb hd => X11_conditional_bad2 h.ri hq hx hb (by omega)) (fun G b d h0 hb hd => X12_conditional_bad2 h.mi hq hx hb (by omega)))
    · refine Or.inl ?_
      rcases (show k = 0 ∨ k = 1 ∨ k = 2 ∨ k = 3 ∨ k = 4 by omega) with rfl | rfl | rfl | rfl | rfl
      · exact ⟨_, Pok.qe0 h ((hz.rq.2.1.1 q hq).1.1) (fun G b d h0 hb hd => X11_conditional_0 h.ri hq hb (by omega)) (fun G b d h0 hb hd => X12_conditional_0 h.mi hq hb (by omega))⟩
      · exact ⟨_, Pok.qe0 h ((hz.rq.2.1.1 q hq).1.2.1) (fun G b d h0 hb hd => X11_conditional_1 h.ri hq hb (by omega)) (fun G b d h0 hb hd => X12_conditional_1 h.mi hq hb (by omega))⟩
      · exact ⟨_, Pok.qe0 h ((hz.rq.2.1.1 q hq).1.2.2.1) (fun G b d h0 hb hd => X11_conditional_2 h.ri hq hb (by omega)) (fun G b d h0 hb hd => X12_conditional_2 h.mi hq hb (by omega))⟩
      · exact ⟨_, Pok.qe0 h ((hz.rq.2.1.1 q hq).1.2.2.2.symm) (fun G b d h0 hb hd => X11_conditional_3 h.ri hq hb (by omega)) (fun G b d h0 hb hd => X12_conditional_3 h.mi hq hb (by omega))⟩
      · exact ⟨_, Pok.qe0 h (by rw [hz.rq.dn]) (fun G b d h0 hb hd => X11_conditional_4 h.ri hq hb (by omega)) (fun G b d h0 hb hd => X12_conditional_4 h.mi hq hb (by omega))⟩

theorem pr_person (h : REL S T) (x y : Int32) : AnN mX11_person mX12_person [.int x, .int y] S T := by
  obtain ⟨s, t, n, pp, r, bb, o, na, ns, z, h⟩ := h
  have hz := h.cz
  have h8 : pp ≤ 8 := h.mi.2.2.2.2.1
  rcases rngp (x := x) pp (by omega) with hx | ⟨q, hq, rfl⟩
  · exact Or.inr (Pth.q h (fun G b d h0 hb hd => X11_person_bad1 h.ri.1 h.ri.2.2.2.2.1 h8 hx (by omega)) (fun G b d h0 hb hd => X12_person_bad1 h.mi.2.2.2.1 h8 (outp (by omega) hx) hb (by omega)))
  · rcases rng (x := y) (l' := 0) (m' := 7) 0 7 rfl rfl (by decide) (by decide) with hx | ⟨k, hk1, hk, rfl⟩
    · exact Or.inr (Pth.q h (fun G b d h0 hb hd => X11_person_bad2 h.ri hq hx hb (by omega)) (fun G b d h0 hb hd => X12_person_bad2 h.mi hq hx hb (by omega)))
    · refine Or.inl ?_
      rcases (show k = 0 ∨ k = 1 ∨ k = 2 ∨ k = 3 ∨ k = 4 ∨ k = 5 ∨ k = 6 ∨ k = 7 by omega) with rfl | rfl | rfl | rfl | rfl | rfl | rfl | rfl
      · exact ⟨_, Pok.qe0 h ((hz.rq.own hq).1) (fun G b d h0 hb hd => X11_person_0 h.ri hq hb (by omega)) (fun G b d h0 hb hd => X12_person_0 h.mi hq hb (by omega))⟩
      · exact ⟨_, Pok.qe0 h ((hz.rq.own hq).2.1) (fun G b d h0 hb hd => X11_person_1 h.ri hq hb (by omega)) (fun G b d h0 hb hd => X12_person_1 h.mi hq hb (by omega))⟩
      · exact ⟨_, Pok.qe0 h (hz.rq.2.1.2.2.1 q hq) (fun G b d h0 hb hd => X11_person_2 h.ri hq hb (by omega)) (fun G b d h0 hb hd => X12_person_2 h.mi hq hb (by omega))⟩
      · exact ⟨_, Pok.qe0 h ((hz.rq.own hq).2.2.1) (fun G b d h0 hb hd => X11_person_3 h.ri hq hb (by omega)) (fun G b d h0 hb hd => X12_person_3 h.mi hq hb (by omega))⟩
      · exact ⟨_, Pok.qe0 h ((hz.rq.own hq).2.2.2) (fun G b d h0 hb hd => X11_person_4 h.ri hq hb (by omega)) (fun G b d h0 hb hd => X12_person_4 h.mi hq hb (by omega))⟩
      · exact ⟨_, Pok.qe0 h ((hz.rq.there hq).1) (fun G b d h0 hb hd => X11_person_5 h.ri hq hb (by omega)) (fun G b d h0 hb hd => X12_person_5 h.mi hq hb (by omega))⟩
      · exact ⟨_, Pok.qe0 h ((hz.rq.there hq).2) (fun G b d h0 hb hd => X11_person_6 h.ri hq hb (by omega)) (fun G b d h0 hb hd => X12_person_6 h.mi hq hb (by omega))⟩
      · exact ⟨_, Pok.qe h (congrArg b2i (wants_eq (begin_WR h.hs hz.rq) hz.mi hq)) (fun G b d h0 hb hd => X11_person_7 h.ri hq hb (by omega)) (fun G b d h0 hb hd => X12_person_7 h.mi hq hb (by omega)) (cS.wsm (wkBegin_sm.trans wkWants_sm)) ⟨(tS.u2 (by decide)).trans tS.wants, by rw [mWants_off (by decide) (by decide), up2_same]⟩⟩

theorem pr_crossing (h : REL S T) (x : Int32) : AnI mX11_crossing mX12_crossing [.int x] S T := by
  obtain ⟨s, t, n, pp, r, bb, o, na, ns, z, h⟩ := h
  have hz := h.cz
  have h8 : pp ≤ 8 := h.mi.2.2.2.2.1
  rcases rng (x := x) (l' := 1) (m' := 60) 1 60 rfl rfl (by decide) (by decide) with hx | ⟨k, hk1, hk, rfl⟩
  · exact Or.inr (Pth.q h (fun G b d h0 hb hd => X11_crossing_bad1 hx (by omega)) (fun G b d h0 hb hd => X12_crossing_bad1 (inR_out hx) hb (by omega)))
  · have w := q_WR h.hs h.rq
    have nw := n_WR h.hs k _ _ w.1 w.2.1 w.2.2
    exact Or.inl ⟨_, Pok.qe h (nw.2.2.1.2.1.symm) (fun G b d h0 hb hd => X11_crossing h.ri hk1 hk hb (by omega)) (fun G b d h0 hb hd => X12_crossing h.mi h.po hk1 hk hb (by omega)) (cS.wsm (wkBegin_sm.trans (wkN_sm _ _))) (K2.sunN _ _ K2.p).q⟩

theorem pr_then (h : REL S T) (x y u : Int32) : AnB mX11_then mX12_then [.int x, .int y, .int u] S T := by
  obtain ⟨s, t, n, pp, r, bb, o, na, ns, z, h⟩ := h
  have hz := h.cz
  have h8 : pp ≤ 8 := h.mi.2.2.2.2.1
  rcases rngp (x := x) pp (by omega) with hx | ⟨q, hq, rfl⟩
  · exact Or.inr (Or.inl (Pth.q h (fun G b d h0 hb hd => X11_then_bad1 h.ri.1 h.ri.2.2.2.2.1 h8 hx (by omega)) (fun G b d h0 hb hd => X12_then_bad1 h.mi.2.2.2.1 h8 (Or.inl (outp (by omega) hx)) hb (by omega))))
  · rcases rng (x := u) (l' := 0) (m' := 1) 0 1 rfl rfl (by decide) (by decide) with hx | ⟨v, hv1, hv, rfl⟩
    · exact Or.inr (Or.inl (Pth.q h (fun G b d h0 hb hd => X11_then_bad2 h.ri.1 h.ri.2.2.2.2.1 h8 hq hx (by omega)) (fun G b d h0 hb hd => X12_then_bad1 h.mi.2.2.2.1 h8 (Or.inr hx) hb (by omega))))
    · rcases rng (x := y) (l' := 0) (m' := 60) 0 60 rfl rfl (by decide) (by decide) with hx | ⟨k, hk1, hk, rfl⟩
      · exact Or.inr (Or.inr (Pth.q h (fun G b d h0 hb hd => X11_then_bad3 h.ri.1 h.ri.2.2.2.2.1 h8 hq hv hx (by omega)) (fun G b d h0 hb hd => X12_then_bad2 h.mi.2.2.2.1 h8 hq hv (inR_out hx) hb (by omega))))
      · have w := q_WR h.hs h.rq
        have nw := (n_WR h.hs k _ _ w.1 w.2.1 w.2.2).2.2.2.1 q hq
        exact Or.inl ⟨_, Pok.qe h (by rw [nw.2.2.1, nw.2.2.2]) (fun G b d h0 hb hd => X11_then h.ri hq hk hv hb (by omega)) (fun G b d h0 hb hd => X12_then h.mi h.po hq hk hv hb (by omega)) (cS.wsm (wkBegin_sm.trans (wkN_sm _ _))) (K2.sunN _ _ K2.p).q⟩

theorem pr_first (h : REL S T) (x : Int32) : AnN mX11_first mX12_first [.int x] S T := by
  obtain ⟨s, t, n, pp, r, bb, o, na, ns, z, h⟩ := h
  have hz := h.cz
  have h8 : pp ≤ 8 := h.mi.2.2.2.2.1
  rcases rngp (x := x) pp (by omega) with hx | ⟨q, hq, rfl⟩
  · exact Or.inr (Pth.q h (fun G b d h0 hb hd => X11_first_bad1 h.ri.1 h.ri.2.2.2.2.1 h8 hx (by omega)) (fun G b d h0 hb hd => X12_first_bad1 h.mi.2.2.2.1 h8 (outp (by omega) hx) hb (by omega)))
  · have w := q_WR h.hs h.rq
    exact Or.inl ⟨_, Pok.qe h (fst_eq h.hs 60 1 _ _ w.1 w.2.1 w.2.2) (fun G b d h0 hb hd => X11_first h.ri hq hb (by omega)) (fun G b d h0 hb hd => X12_first h.mi h.po hq hb (by omega)) (cS.wsm (wkBegin_sm.trans (wkFst_sm _ _ _))) (K2.fst _ _ _ K2.p).q⟩

theorem pr_waiting (h : REL S T) (x y : Int32) : AnB mX11_waiting mX12_waiting [.int x, .int y] S T := by
  obtain ⟨s, t, n, pp, r, bb, o, na, ns, z, h⟩ := h
  have hz := h.cz
  have h8 : pp ≤ 8 := h.mi.2.2.2.2.1
  rcases rngp (x := x) pp (by omega) with hx | ⟨q, hq, rfl⟩
  · exact Or.inr (Or.inl (Pth.q h (fun G b d h0 hb hd => X11_waiting_bad1 h.ri.1 h.ri.2.2.2.2.1 h8 hx (by omega)) (fun G b d h0 hb hd => X12_waiting_bad1 h.mi.2.2.2.1 h8 (outp (by omega) hx) hb (by omega))))
  · rcases rng (x := y) (l' := 0) (m' := 60) 0 60 rfl rfl (by decide) (by decide) with hx | ⟨k, hk1, hk, rfl⟩
    · exact Or.inr (Or.inr (Pth.q h (fun G b d h0 hb hd => X11_waiting_bad2 h.ri.1 h.ri.2.2.2.2.1 h8 hq hx (by omega)) (fun G b d h0 hb hd => X12_waiting_bad2 h.mi.2.2.2.1 h8 hq (inR_out hx) hb (by omega))))
    · have w := q_WR h.hs h.rq
      exact Or.inl ⟨_, Pok.qe h (cnt_eq h.hs (fun S T w e => by show S 57 7 &&& (S 58 7 ^^^ -1) = T 0 40 &&& (T 0 33 ^^^ -1); rw [e, w.2.2.1.2.1]) k 0 _ _ w.1 w.2.1 w.2.2) (fun G b d h0 hb hd => X11_waiting h.ri hq hk hb (by omega)) (fun G b d h0 hb hd => X12_waiting h.mi h.po hq hk hb (by omega)) (cS.wsm (wkBegin_sm.trans (wkN_sm _ _))) (K2.sunN _ _ K2.p).q⟩

theorem pr_times (h : REL S T) (x y : Int32) : AnB mX11_times mX12_times [.int x, .int y] S T := by
  obtain ⟨s, t, n, pp, r, bb, o, na, ns, z, h⟩ := h
  have hz := h.cz
  have h8 : pp ≤ 8 := h.mi.2.2.2.2.1
  rcases rngp (x := x) pp (by omega) with hx | ⟨q, hq, rfl⟩
  · exact Or.inr (Or.inl (Pth.q h (fun G b d h0 hb hd => X11_times_bad1 h.ri.1 h.ri.2.2.2.2.1 h8 hx (by omega)) (fun G b d h0 hb hd => X12_times_bad1 h.mi.2.2.2.1 h8 (outp (by omega) hx) hb (by omega))))
  · rcases rng (x := y) (l' := 0) (m' := 60) 0 60 rfl rfl (by decide) (by decide) with hx | ⟨k, hk1, hk, rfl⟩
    · exact Or.inr (Or.inr (Pth.q h (fun G b d h0 hb hd => X11_times_bad2 h.ri.1 h.ri.2.2.2.2.1 h8 hq hx (by omega)) (fun G b d h0 hb hd => X12_times_bad2 h.mi.2.2.2.1 h8 hq (inR_out hx) hb (by omega))))
    · have w := q_WR h.hs h.rq
      exact Or.inl ⟨_, Pok.qe h (cnt_eq h.hs (fun S T w _ => w.2.2.1.2.1.symm) k 0 _ _ w.1 w.2.1 w.2.2) (fun G b d h0 hb hd => X11_times h.ri hq hk hb (by omega)) (fun G b d h0 hb hd => X12_times h.mi h.po hq hk hb (by omega)) (cS.wsm (wkBegin_sm.trans (wkN_sm _ _))) (K2.sunN _ _ K2.p).q⟩

theorem pr_toBear (h : REL S T) (x : Int32) : AnI mX11_toBear mX12_toBear [.int x] S T := by
  obtain ⟨s, t, n, pp, r, bb, o, na, ns, z, h⟩ := h
  have hz := h.cz
  have h8 : pp ≤ 8 := h.mi.2.2.2.2.1
  rcases rng (x := x) (l' := 0) (m' := 60) 0 60 rfl rfl (by decide) (by decide) with hx | ⟨k, hk1, hk, rfl⟩
  · exact Or.inr (Pth.q h (fun G b d h0 hb hd => X11_toBear_bad1 hx (by omega)) (fun G b d h0 hb hd => X12_toBear_bad1 (inR_out hx) hb (by omega)))
  · have kb := K2.bear (n := n) (r := r) (pp := pp) (k := k) 8 1 _ (K2.p (T := up2 T 0 2 0)) tS.p
    exact Or.inl ⟨_, Pok.qe h (bear_eq (T := up2 T 0 2 0) h.hs 7 1 S _ rfl hz.rq mP_Kpt (hz.rq.q h.hs cS.rfl' tS.p)) (fun G b d h0 hb hd => X11_toBear h.ri hk hb (by omega)) (fun G b d h0 hb hd => X12_toBear h.mi h.po hk hb (by omega)) (cS.wsm (wkBear_sm _ _ _)) ⟨(tS.u2 (by decide)).trans kb.2, by rw [kb.1.2.2 2 (by decide), up2_same]⟩⟩

theorem pr_fullest (h : REL S T) (x y : Int32) : AnB mX11_fullest mX12_fullest [.int x, .int y] S T := by
  obtain ⟨s, t, n, pp, r, bb, o, na, ns, z, h⟩ := h
  have hz := h.cz
  have h8 : pp ≤ 8 := h.mi.2.2.2.2.1
  rcases rng (x := y) (l' := 0) (m' := 1) 0 1 rfl rfl (by decide) (by decide) with hx | ⟨v, hv1, hv, rfl⟩
  · exact Or.inr (Or.inl (Pth.q h (fun G b d h0 hb hd => X11_fullest_bad1 hx (by omega)) (fun G b d h0 hb hd => X12_fullest_bad1 hx hb (by omega))))
  · rcases rng (x := x) (l' := 1) (m' := 60) 1 60 rfl rfl (by decide) (by decide) with hx | ⟨k, hk1, hk, rfl⟩
    · exact Or.inr (Or.inr (Pth.q h (fun G b d h0 hb hd => X11_fullest_bad2 hv hx (by omega)) (fun G b d h0 hb hd => X12_fullest_bad2 hv (inR_out hx) hb (by omega))))
    · have w := q_WR h.hs h.rq
      have e := ful_eq0 (k := 1) (x := 0) (x' := -1) h.hs hk1 w.1 w.2.1 w.2.2
      exact Or.inl ⟨_, Pok.qe h (by rw [e]) (fun G b d h0 hb hd => X11_fullest h.ri hk1 hk hv hb (by omega)) (fun G b d h0 hb hd => X12_fullest h.mi h.po hk1 hk hv hb (by omega)) (cS.wsm (wkBegin_sm.trans (wkN_sm _ _))) (K2.sunN _ _ K2.p).q⟩

theorem pr_comes (h : REL S T) (x : Int32) : AnI mX11_comes mX12_comes [.int x] S T := by
  obtain ⟨s, t, n, pp, r, bb, o, na, ns, z, h⟩ := h
  have hz := h.cz
  have h8 : pp ≤ 8 := h.mi.2.2.2.2.1
  rcases rng (x := x) (l' := 0) (m' := 1023) 0 1023 rfl rfl (by decide) (by decide) with hx | ⟨a, ha1, ha, rfl⟩
  · exact Or.inr (Pth.q h (fun G b d h0 hb hd => X11_comes_bad1 hx (by omega)) (fun G b d h0 hb hd => X12_comes_bad1 (inR_out hx) hb (by omega)))
  · exact Or.inl ⟨_, Pok.qe0 h (by rw [hz.rq.dn]; exact come_eq hz.rq _) (fun G b d h0 hb hd => X11_comes h.ri ha hb (by omega)) (fun G b d h0 hb hd => X12_comes h.mi ha hb (by omega))⟩

theorem pr_why (h : REL S T) (x y : Int32) : AnB mX11_why mX12_why [.int x, .int y] S T := by
  obtain ⟨s, t, n, pp, r, bb, o, na, ns, z, h⟩ := h
  have hz := h.cz
  have h8 : pp ≤ 8 := h.mi.2.2.2.2.1
  rcases th10 y with hx | ⟨q, hq, rfl⟩
  · exact Or.inr (Or.inl (Pth.q h (fun G b d h0 hb hd => X11_why_bad1 hx (by omega)) (fun G b d h0 hb hd => X12_why_bad1 (out10 hx) hb (by omega))))
  · rcases rng (x := x) (l' := 0) (m' := 1023) 0 1023 rfl rfl (by decide) (by decide) with hx | ⟨a, ha1, ha, rfl⟩
    · exact Or.inr (Or.inr (Pth.q h (fun G b d h0 hb hd => X11_why_bad2 hq hx (by omega)) (fun G b d h0 hb hd => X12_why_bad2 ⟨Nat.zero_le _, by omega⟩ (inR_out hx) hb (by omega))))
    · exact Or.inl ⟨_, Pok.qe h (why_eq hz.rq (by omega) hq) (fun G b d h0 hb hd => X11_why h.ri ha hq hb (by omega)) (fun G b d h0 hb hd => X12_why h.mi ha hq hb (by omega)) (cS.row (by decide)) ⟨(tS.u2 (by decide)).trans tS.wh, by rw [whH_off (by decide) (by decide), up2_same]⟩⟩

theorem pr_needed (h : REL S T) (x y : Int32) : AnB mX11_needed mX12_needed [.int x, .int y] S T := by
  obtain ⟨s, t, n, pp, r, bb, o, na, ns, z, h⟩ := h
  have hz := h.cz
  have h8 : pp ≤ 8 := h.mi.2.2.2.2.1
  rcases th10 y with hx | ⟨q, hq, rfl⟩
  · exact Or.inr (Or.inl (Pth.q h (fun G b d h0 hb hd => X11_needed_bad1 hx (by omega)) (fun G b d h0 hb hd => X12_needed_bad1 (out10 hx) hb (by omega))))
  · rcases rng (x := x) (l' := 0) (m' := 1023) 0 1023 rfl rfl (by decide) (by decide) with hx | ⟨a, ha1, ha, rfl⟩
    · exact Or.inr (Or.inr (Pth.q h (fun G b d h0 hb hd => X11_needed_bad2 hq hx (by omega)) (fun G b d h0 hb hd => X12_needed_bad2 ⟨Nat.zero_le _, by omega⟩ (inR_out hx) hb (by omega))))
    · exact Or.inl ⟨_, Pok.qe0 h (needed_eq hz.rq hq) (fun G b d h0 hb hd => X11_needed h.ri ha hq hb (by omega)) (fun G b d h0 hb hd => X12_needed h.mi ha hq hb (by omega))⟩

theorem pr_fewest (h : REL S T) (x y : Int32) : AnB mX11_fewest mX12_fewest [.int x, .int y] S T := by
  obtain ⟨s, t, n, pp, r, bb, o, na, ns, z, h⟩ := h
  have hz := h.cz
  have h8 : pp ≤ 8 := h.mi.2.2.2.2.1
  rcases th10 y with hx | ⟨q, hq, rfl⟩
  · exact Or.inr (Or.inl (Pth.q h (fun G b d h0 hb hd => X11_fewest_bad1 hx (by omega)) (fun G b d h0 hb hd => X12_fewest_bad1 (out10 hx) hb (by omega))))
  · rcases rng (x := x) (l' := 0) (m' := 1023) 0 1023 rfl rfl (by decide) (by decide) with hx | ⟨a, ha1, ha, rfl⟩
    · exact Or.inr (Or.inr (Pth.q h (fun G b d h0 hb hd => X11_fewest_bad2 hq hx (by omega)) (fun G b d h0 hb hd => X12_fewest_bad2 ⟨Nat.zero_le _, by omega⟩ (inR_out hx) hb (by omega))))
    · exact Or.inl ⟨_, Pok.qe0 h (fewest_eq hz.rq hq) (fun G b d h0 hb hd => X11_fewest h.ri ha hq hb (by omega)) (fun G b d h0 hb hd => X12_fewest h.mi ha hq hb (by omega))⟩

theorem pr_toDeny (h : REL S T) (x y : Int32) : AnB mX11_toDeny mX12_toDeny [.int x, .int y] S T := by
  obtain ⟨s, t, n, pp, r, bb, o, na, ns, z, h⟩ := h
  have hz := h.cz
  have h8 : pp ≤ 8 := h.mi.2.2.2.2.1
  rcases th10 y with hx | ⟨q, hq, rfl⟩
  · exact Or.inr (Or.inl (Pth.q h (fun G b d h0 hb hd => X11_toDeny_bad1 hx (by omega)) (fun G b d h0 hb hd => X12_toDeny_bad1 (out10 hx) hb (by omega))))
  · rcases rng (x := x) (l' := 0) (m' := 1023) 0 1023 rfl rfl (by decide) (by decide) with hx | ⟨a, ha1, ha, rfl⟩
    · exact Or.inr (Or.inr (Pth.q h (fun G b d h0 hb hd => X11_toDeny_bad2 hq hx (by omega)) (fun G b d h0 hb hd => X12_toDeny_bad2 ⟨Nat.zero_le _, by omega⟩ (inR_out hx) hb (by omega))))
    · exact Or.inl ⟨_, Pok.qe0 h (toDeny_eq hz.rq hq) (fun G b d h0 hb hd => X11_toDeny h.ri ha hq hb (by omega)) (fun G b d h0 hb hd => X12_toDeny h.mi ha hq hb (by omega))⟩

theorem pr_leads (h : REL S T) (x y : Int32) : AnN mX11_leads mX12_leads [.int x, .int y] S T := by
  obtain ⟨s, t, n, pp, r, bb, o, na, ns, z, h⟩ := h
  have hz := h.cz
  have h8 : pp ≤ 8 := h.mi.2.2.2.2.1
  rcases th10 x with hx | ⟨q, hq, rfl⟩
  · exact Or.inr (Pth.q h (fun G b d h0 hb hd => X11_leads_bad1 hx (by omega)) (fun G b d h0 hb hd => X12_leads_bad1 (Or.inl (out10 hx)) hb (by omega)))
  · rcases th10 y with hx | ⟨p, hp, rfl⟩
    · exact Or.inr (Pth.q h (fun G b d h0 hb hd => X11_leads_bad2 hq hx (by omega)) (fun G b d h0 hb hd => X12_leads_bad1 (Or.inr (out10 hx)) hb (by omega)))
    · exact Or.inl ⟨_, Pok.qe0 h (by rw [led_eq hz.rq.2.1.1 hz.rq.dn]) (fun G b d h0 hb hd => X11_leads h.ri hq hp hb (by omega)) (fun G b d h0 hb hd => X12_leads h.mi hq hp hb (by omega))⟩

theorem pr_sources (h : REL S T) (x : Int32) : AnN mX11_sources mX12_sources [.int x] S T := by
  obtain ⟨s, t, n, pp, r, bb, o, na, ns, z, h⟩ := h
  have hz := h.cz
  have h8 : pp ≤ 8 := h.mi.2.2.2.2.1
  rcases th10 x with hx | ⟨q, hq, rfl⟩
  · exact Or.inr (Pth.q h (fun G b d h0 hb hd => X11_sources_bad1 hx (by omega)) (fun G b d h0 hb hd => X12_sources_bad1 (out10 hx) hb (by omega)))
  · exact Or.inl ⟨_, Pok.qe0 h (by rw [led_eq hz.rq.2.1.1 hz.rq.dn]) (fun G b d h0 hb hd => X11_sources h.ri hq hb (by omega)) (fun G b d h0 hb hd => X12_sources h.mi hq hb (by omega))⟩

theorem pr_sets (h : REL S T) (x : Int32) : AnN mX11_sets mX12_sets [.int x] S T := by
  obtain ⟨s, t, n, pp, r, bb, o, na, ns, z, h⟩ := h
  have hz := h.cz
  have h8 : pp ≤ 8 := h.mi.2.2.2.2.1
  rcases th10 x with hx | ⟨q, hq, rfl⟩
  · exact Or.inr (Pth.q h (fun G b d h0 hb hd => X11_sets_bad1 hx (by omega)) (fun G b d h0 hb hd => X12_sets_bad1 (out10 hx) hb (by omega)))
  · exact Or.inl ⟨_, Pok.qe h (sets_eq hz.rq) (fun G b d h0 hb hd => X11_sets h.ri hq hb (by omega)) (fun G b d h0 hb hd => X12_sets h.mi hq hb (by omega)) (cS.row (by decide)) tS.c0⟩

theorem pr_resting (h : REL S T)  : An0 mX11_resting mX12_resting [] S T := by
  obtain ⟨s, t, n, pp, r, bb, o, na, ns, z, h⟩ := h
  have hz := h.cz
  have h8 : pp ≤ 8 := h.mi.2.2.2.2.1
  exact ⟨_, Pok.qe0 h (resting_eq hz.rq) (fun G b d h0 hb hd => X11_resting h.ri hb (by omega)) (fun G b d h0 hb hd => X12_resting h.mi hb (by omega))⟩

theorem pr_unhad (h : REL S T)  : An0 mX11_unhad mX12_unhad [] S T := by
  obtain ⟨s, t, n, pp, r, bb, o, na, ns, z, h⟩ := h
  have hz := h.cz
  have h8 : pp ≤ 8 := h.mi.2.2.2.2.1
  exact ⟨_, Pok.qe0 h (unhad_eq hz.rq) (fun G b d h0 hb hd => X11_unhad h.ri hb (by omega)) (fun G b d h0 hb hd => X12_unhad h.mi hb (by omega))⟩

theorem pr_fault (h : REL S T)  : An0 mX11_fault mX12_fault [] S T := by
  obtain ⟨s, t, n, pp, r, bb, o, na, ns, z, h⟩ := h
  have hz := h.cz
  have h8 : pp ≤ 8 := h.mi.2.2.2.2.1
  exact ⟨_, Pok.qe0 h (hz.fp) (fun G b d h0 hb hd => X11_fault h.ri hb (by omega)) (fun G b d h0 hb hd => X12_fault hb)⟩

theorem pr_like (h : REL S T) (x y : Int32) : AnN mX11_like mX12_like [.int x, .int y] S T := by
  obtain ⟨s, t, n, pp, r, bb, o, na, ns, z, h⟩ := h
  have hz := h.cz
  have h8 : pp ≤ 8 := h.mi.2.2.2.2.1
  rcases rngp (x := x) pp (by omega) with hx | ⟨q, hq, rfl⟩
  · exact Or.inr (Pth.q h (fun G b d h0 hb hd => X11_like_bad1 h.ri.1 h.ri.2.2.2.2.1 h8 hx (by omega)) (fun G b d h0 hb hd => X12_like_bad1 h.mi.2.2.2.1 h8 (Or.inl (outp (by omega) hx)) hb (by omega)))
  · rcases rng (x := y) (l' := 0) (m' := 1) 0 1 rfl rfl (by decide) (by decide) with hx | ⟨v, hv1, hv, rfl⟩
    · exact Or.inr (Pth.q h (fun G b d h0 hb hd => X11_like_bad2 h.ri.1 h.ri.2.2.2.2.1 h8 hq hx (by omega)) (fun G b d h0 hb hd => X12_like_bad1 h.mi.2.2.2.1 h8 (Or.inr hx) hb (by omega)))
    · exact Or.inl ⟨_, Pok.qe0 h (like_eq hz.rq hq) (fun G b d h0 hb hd => X11_like h.ri hq hv hb (by omega)) (fun G b d h0 hb hd => X12_like h.mi hq hv hb (by omega))⟩

theorem pr_toSend (h : REL S T) (x : Int32) : AnI mX11_toSend mX12_toSend [.int x] S T := by
  obtain ⟨s, t, n, pp, r, bb, o, na, ns, z, h⟩ := h
  have hz := h.cz
  have h8 : pp ≤ 8 := h.mi.2.2.2.2.1
  rcases rng (x := x) (l' := 0) (m' := 8) 0 8 rfl rfl (by decide) (by decide) with hx | ⟨k, hk1, hk, rfl⟩
  · exact Or.inr (Pth.q h (fun G b d h0 hb hd => X11_toSend_bad1 hx (by omega)) (fun G b d h0 hb hd => X12_toSend_bad1 (inR_out hx) hb (by omega)))
  · exact Or.inl ⟨_, Pok.qe h (toSend_eq h.hs hz.rq) (fun G b d h0 hb hd => X11_toSend h.ri hk hb (by omega)) (fun G b d h0 hb hd => X12_toSend h.mi h.po hk hb (by omega)) (cS.wsm wkBegin_sm) tS.c0⟩

theorem pr_happiest (h : REL S T) (x : Int32) : AnN mX11_happiest mX12_happiest [.int x] S T := by
  obtain ⟨s, t, n, pp, r, bb, o, na, ns, z, h⟩ := h
  have hz := h.cz
  have h8 : pp ≤ 8 := h.mi.2.2.2.2.1
  rcases rng (x := x) (l' := 0) (m' := 2) 0 2 rfl rfl (by decide) (by decide) with hx | ⟨v, hv1, hv, rfl⟩
  · exact Or.inr (Pth.q h (fun G b d h0 hb hd => X11_happiest_bad1 hx (by omega)) (fun G b d h0 hb hd => X12_happiest_bad1 (inR_out hx) hb (by omega)))
  · exact Or.inl ⟨_, Pok.qe0 h (happiest_eq hz.rq) (fun G b d h0 hb hd => X11_happiest h.ri hv hb (by omega)) (fun G b d h0 hb hd => X12_happiest h.mi hv hb (by omega))⟩

theorem pr_critical (h : REL S T) (x : Int32) : AnN mX11_critical mX12_critical [.int x] S T := by
  obtain ⟨s, t, n, pp, r, bb, o, na, ns, z, h⟩ := h
  have hz := h.cz
  have h8 : pp ≤ 8 := h.mi.2.2.2.2.1
  rcases rngp (x := x) pp (by omega) with hx | ⟨q, hq, rfl⟩
  · exact Or.inr (Pth.q h (fun G b d h0 hb hd => X11_critical_bad1 h.ri.1 h.ri.2.2.2.2.1 h8 hx (by omega)) (fun G b d h0 hb hd => X12_critical_bad1 h.mi.2.2.2.1 h8 (outp (by omega) hx) hb (by omega)))
  · exact Or.inl ⟨_, Pok.qe0 h (critical_eq hz.rq hq) (fun G b d h0 hb hd => X11_critical h.ri hq hb (by omega)) (fun G b d h0 hb hd => X12_critical h.mi hq hb (by omega))⟩

theorem pr_bestMissed (h : REL S T) (x : Int32) : AnN mX11_bestMissed mX12_bestMissed [.int x] S T := by
  obtain ⟨s, t, n, pp, r, bb, o, na, ns, z, h⟩ := h
  have hz := h.cz
  have h8 : pp ≤ 8 := h.mi.2.2.2.2.1
  rcases rngp (x := x) pp (by omega) with hx | ⟨q, hq, rfl⟩
  · exact Or.inr (Pth.q h (fun G b d h0 hb hd => X11_bestMissed_bad1 h.ri.1 h.ri.2.2.2.2.1 h8 hx (by omega)) (fun G b d h0 hb hd => X12_bestMissed_bad1 h.mi.2.2.2.1 h8 (outp (by omega) hx) hb (by omega)))
  · exact Or.inl ⟨_, Pok.qe h (congrArg nI (best_eq hz.rq hq)) (fun G b d h0 hb hd => X11_bestMissed h.ri hq hb (by omega)) (fun G b d h0 hb hd => X12_bestMissed h.mi hq hb (by omega)) (cS.row (by decide)) tS.c0⟩

theorem pr_tells (h : REL S T) (x : Int32) : AnN mX11_tells mX12_tells [.int x] S T := by
  obtain ⟨s, t, n, pp, r, bb, o, na, ns, z, h⟩ := h
  have hz := h.cz
  have h8 : pp ≤ 8 := h.mi.2.2.2.2.1
  rcases rngp (x := x) pp (by omega) with hx | ⟨q, hq, rfl⟩
  · exact Or.inr (Pth.q h (fun G b d h0 hb hd => X11_tells_bad1 h.ri.1 h.ri.2.2.2.2.1 h8 hx (by omega)) (fun G b d h0 hb hd => X12_tells_bad1 h.mi.2.2.2.1 h8 (outp (by omega) hx) hb (by omega)))
  · exact Or.inl ⟨_, Pok.qe h (tells_eq hz.rq hz.sn hq) (fun G b d h0 hb hd => X11_tells h.ri hq h.sn.1 h.sn.2.2.1 hb (by omega)) (fun G b d h0 hb hd => X12_tells h.mi h.sn.2.1 h.sn.2.2.1 hq hb (by omega)) (cS.row (by decide)) tS.c0⟩

theorem pr_common (h : REL S T) (x y : Int32) : AnN mX11_common mX12_common [.int x, .int y] S T := by
  obtain ⟨s, t, n, pp, r, bb, o, na, ns, z, h⟩ := h
  have hz := h.cz
  have h8 : pp ≤ 8 := h.mi.2.2.2.2.1
  rcases rngp (x := x) pp (by omega) with hx | ⟨q, hq, rfl⟩
  · exact Or.inr (Pth.q h (fun G b d h0 hb hd => X11_common_bad1 h.ri.1 h.ri.2.2.2.2.1 h8 hx (by omega)) (fun G b d h0 hb hd => X12_common_bad1 h.mi.2.2.2.1 h8 (Or.inl (outp (by omega) hx)) hb (by omega)))
  · rcases rngp (x := y) pp (by omega) with hx | ⟨p, hp, rfl⟩
    · exact Or.inr (Pth.q h (fun G b d h0 hb hd => X11_common_bad2 h.ri.1 h.ri.2.2.2.2.1 h8 hq hx (by omega)) (fun G b d h0 hb hd => X12_common_bad1 h.mi.2.2.2.1 h8 (Or.inr (outp (by omega) hx)) hb (by omega)))
    · exact Or.inl ⟨_, Pok.qe0 h (by rw [(hz.rq.there hq).1, (hz.rq.there hp).1]) (fun G b d h0 hb hd => X11_common h.ri hq hp hb (by omega)) (fun G b d h0 hb hd => X12_common h.mi hq hp hb (by omega))⟩

theorem pr_apart (h : REL S T) (x y : Int32) : AnN mX11_apart mX12_apart [.int x, .int y] S T := by
  obtain ⟨s, t, n, pp, r, bb, o, na, ns, z, h⟩ := h
  have hz := h.cz
  have h8 : pp ≤ 8 := h.mi.2.2.2.2.1
  rcases rngp (x := x) pp (by omega) with hx | ⟨q, hq, rfl⟩
  · exact Or.inr (Pth.q h (fun G b d h0 hb hd => X11_apart_bad1 h.ri.1 h.ri.2.2.2.2.1 h8 hx (by omega)) (fun G b d h0 hb hd => X12_apart_bad1 h.mi.2.2.2.1 h8 (Or.inl (outp (by omega) hx)) hb (by omega)))
  · rcases rngp (x := y) pp (by omega) with hx | ⟨p, hp, rfl⟩
    · exact Or.inr (Pth.q h (fun G b d h0 hb hd => X11_apart_bad2 h.ri.1 h.ri.2.2.2.2.1 h8 hq hx (by omega)) (fun G b d h0 hb hd => X12_apart_bad1 h.mi.2.2.2.1 h8 (Or.inr (outp (by omega) hx)) hb (by omega)))
    · exact Or.inl ⟨_, Pok.qe0 h (by rw [(hz.rq.there hq).1, (hz.rq.there hp).1]) (fun G b d h0 hb hd => X11_apart h.ri hq hp hb (by omega)) (fun G b d h0 hb hd => X12_apart h.mi h.po hq hp hb (by omega))⟩

theorem pr_look (h : REL S T) (x y : Int32) : AnN mX11_look mX12_look [.int x, .int y] S T := by
  obtain ⟨s, t, n, pp, r, bb, o, na, ns, z, h⟩ := h
  have hz := h.cz
  have h8 : pp ≤ 8 := h.mi.2.2.2.2.1
  rcases rngp (x := x) pp (by omega) with hx | ⟨q, hq, rfl⟩
  · exact Or.inr (Pth.q h (fun G b d h0 hb hd => X11_look_bad1 h.ri.1 h.ri.2.2.2.2.1 h8 hx (by omega)) (fun G b d h0 hb hd => X12_look_bad1 h.mi.2.2.2.1 h8 (Or.inl (outp (by omega) hx)) hb (by omega)))
  · rcases rng (x := y) (l' := 0) (m' := 1) 0 1 rfl rfl (by decide) (by decide) with hx | ⟨v, hv1, hv, rfl⟩
    · exact Or.inr (Pth.q h (fun G b d h0 hb hd => X11_look_bad2 h.ri.1 h.ri.2.2.2.2.1 h8 hq hx (by omega)) (fun G b d h0 hb hd => X12_look_bad1 h.mi.2.2.2.1 h8 (Or.inr hx) hb (by omega)))
    · exact Or.inl ⟨_, Pok.qe h (look_eq (v := v) hz.rq hq (tel_low (ns := ns) (q := q))) (fun G b d h0 hb hd => X11_look h.ri hq hv h.sn.1 h.sn.2.2.1 (tells_eq hz.rq hz.sn hq).symm hb (by omega)) (fun G b d h0 hb hd => X12_look h.mi h.sn.2.1 h.sn.2.2.1 hq hv rfl hb (by omega)) (cS.row (by decide)) tS.c0⟩

theorem pr_game (h : REL S T) (x y u : Int32) : AnB mX11_game mX12_game [.int x, .int y, .int u] S T := by
  obtain ⟨s, t, n, pp, r, bb, o, na, ns, z, h⟩ := h
  have hz := h.cz
  have h8 : pp ≤ 8 := h.mi.2.2.2.2.1
  rcases rngp (x := x) pp (by omega) with hx | ⟨q, hq, rfl⟩
  · exact Or.inr (Or.inl (Pth.q h (fun G b d h0 hb hd => X11_game_bad1 h.ri.1 h.ri.2.2.2.2.1 h8 hx (by omega)) (fun G b d h0 hb hd => X12_game_bad1 h.mi.2.2.2.1 h8 (Or.inl (outp (by omega) hx)) hb (by omega))))
  · rcases rngp (x := y) pp (by omega) with hx | ⟨p, hp, rfl⟩
    · exact Or.inr (Or.inl (Pth.q h (fun G b d h0 hb hd => X11_game_bad2 h.ri.1 h.ri.2.2.2.2.1 h8 hq hx (by omega)) (fun G b d h0 hb hd => X12_game_bad1 h.mi.2.2.2.1 h8 (Or.inr (Or.inl (outp (by omega) hx))) hb (by omega))))
    · rcases rng (x := u) (l' := 0) (m' := 1) 0 1 rfl rfl (by decide) (by decide) with hx | ⟨v, hv1, hv, rfl⟩
      · exact Or.inr (Or.inl (Pth.q h (fun G b d h0 hb hd => X11_game_bad3 h.ri.1 h.ri.2.2.2.2.1 h8 hq hp hx (by omega)) (fun G b d h0 hb hd => X12_game_bad1 h.mi.2.2.2.1 h8 (Or.inr (Or.inr hx)) hb (by omega))))
      · by_cases e : q = p
        · subst e
          exact Or.inr (Or.inr (Pth.q h (fun G b d h0 hb hd => X11_game_bad4 h.ri hq hv hb (by omega)) (fun G b d h0 hb hd => X12_game_same h.mi hq hv hb (by omega))))
        · exact Or.inl ⟨_, Pok.qe h (by rw [game_eq h.hs hz.rq hq hp]) (fun G b d h0 hb hd => X11_game h.ri hq hp hv e hb (by omega)) (fun G b d h0 hb hd => X12_game h.mi h.po hq hp hv e hb (by omega)) (cS.wsm wkBegin_sm) tS.c0⟩

theorem pr_years (h : REL S T) (x y u : Int32) : AnB mX11_years mX12_years [.int x, .int y, .int u] S T := by
  obtain ⟨s, t, n, pp, r, bb, o, na, ns, z, h⟩ := h
  have hz := h.cz
  have h8 : pp ≤ 8 := h.mi.2.2.2.2.1
  rcases rng (x := u) (l' := 0) (m' := 2) 0 2 rfl rfl (by decide) (by decide) with hx | ⟨v, hv1, hv, rfl⟩
  · exact Or.inr (Or.inl (Pth.q h (fun G b d h0 hb hd => X11_years_bad1 hx (by omega)) (fun G b d h0 hb hd => X12_years_bad1 (inR_out hx) hb (by omega))))
  · rcases rng (x := y) (l' := 0) (m' := 60) 0 60 rfl rfl (by decide) (by decide) with hx | ⟨k, hk1, hk, rfl⟩
    · exact Or.inr (Or.inr (Pth.q h (fun G b d h0 hb hd => X11_years_bad2 hv hx (by omega)) (fun G b d h0 hb hd => X12_years_bad2 ⟨Nat.zero_le _, hv⟩ (inR_out hx) hb (by omega))))
    · have c0 : cS s S (up2 (wkBegin S (S 0 9) n pp) 0 11 x) := (cS.wsm wkBegin_sm).trans ⟨fun k h1 _ _ _ => up2_row h1, fun j hj => up2_col hj⟩
      exact Or.inl ⟨_, Pok.qe h (years_eq h.hs h.rq hv) (fun G b d h0 hb hd => X11_years h.ri hk hv hb (by omega)) (fun G b d h0 hb hd => X12_years h.mi h.po hk hv hb (by omega)) (c0.trans (cS.yr h.hs _ _ _)) (K2.yr _ _ _ (K2.p.st (by decide))).q⟩

end T3
