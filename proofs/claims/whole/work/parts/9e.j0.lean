/-! ===== the law's world: the class, the model, the answer's row, the script ===== -/
section J0
variable {G : xG} {M M' : xM} {d d' bc bs bc' bs' : Nat} {Q : xR → xH → Prop} {pc idx n : Nat} {ls : List (Option Value)} {st rest As as : List Value} {b : Nat} {S S' T T' : Nat → Nat → Int32} {fo : Nat → Int64} {hS : Nat → Option xC} {y : Option Nat} {h h' h1 : xH} {mC mM : xM}
def oB (b3 : Nat) (fo : Nat → Int64) (hS : Nat → Option xC) : Nat → Option xC := fun a => if a = b3 then some (.inl (3, 1, .inr (.inl fo))) else hS a
def jH (G : xG) (b : Nat) (S T : Nat → Nat → Int32) (fo : Nat → Int64) (hS : Nat → Option xC) (y : Option Nat) : xH := wH G b tbC S (wH G (b + 68) tbM T (oB (b + 68 + 35) fo hS, y))
theorem jH_M : jH G b S T fo hS y = wH G (b + 68) tbM T (wH G b tbC S (oB (b + 68 + 35) fo hS, y)) := wH_comm (Or.inl (by show b + 68 ≤ b + 68; omega))
theorem jH_out : (jH G b S T fo hS y).1 (b + 68 + 35) = some (.inl (3, 1, .inr (.inl fo))) := by
  unfold jH
  rw [wH_off (by show ¬ (b ≤ b + 68 + 35 ∧ b + 68 + 35 < b + 68); omega), wH_off (by show ¬ (b + 68 ≤ b + 68 + 35 ∧ b + 68 + 35 < b + 68 + 35); omega)]
  show oB _ _ _ _ = _
  unfold oB
  rw [if_pos rfl]
theorem jH_sc {q : Nat} {e : xC} (hq : q < b) (hs : hS q = some e) : (jH G b S T fo hS y).1 q = some e := by
  unfold jH
  rw [wH_off (by omega), wH_off (by omega)]
  show oB _ _ _ _ = _
  unfold oB
  rw [if_neg (by omega)]
  exact hs
theorem jH_put {fo' : Nat → Int64} : xU (jH G b S T fo hS y) (b + 68 + 35) (.inl (3, 1, .inr (.inl fo'))) = jH G b S T fo' hS y := by
  refine Prod.ext (funext fun a => ?_) rfl
  unfold jH
  simp only [xU]
  by_cases e : a = b + 68 + 35
  · subst e
    rw [if_pos rfl]
    exact jH_out.symm
  · rw [if_neg e]
    simp only [wH, oB, if_neg e]
theorem jH_eq (e : h'.1 = (jH G b S T fo hS y).1) : h' = jH G b S T fo hS h'.2 := Prod.ext e rfl
theorem V_bud (h1 : bc ≤ bc') (h2 : bs ≤ bs') (k : V G M d bc bs Q pc ls st h) : V G M d bc' bs' Q pc ls st h := fun p e R s m args below meth c H locs cells slots la C hP hS hl q1 q2 => k p e R s m args below meth c H locs cells slots la C hP hS hl (by omega) (by omega)
/-- the cells are as they were; nothing is said of the next address -/
def xF (v : Option Value) (h1 : xH) : xR → xH → Prop := fun r h => r = .inl v ∧ h.1 = h1.1
/-- the class is called -/
theorem J_C {v : Option Value} (dg : decode M.2.1 pc = .ok (.invokevirtual idx, 3)) (cs : CV M.1.cls idx mC n 11) (kC : ∀ h0 : xH, VM G mC 80 0 0 (.ref (b + 0) :: as) (xE v (wH G b tbC S' h0)) (wH G b tbC S h0)) (hn : as.length = n) (hlen : (lg_sl (.ref (b + 0) :: as)).length ≤ mC.2.2.1) (hst : st = as.reverse ++ .ref (b + 0) :: rest) (hd : 81 ≤ d) (hr : (rest.map fun v => v.category).sum ≤ 8) (k : V G M d bc bs Q (pc + 3) ls (v.toList ++ rest) (jH G b S' T fo hS y)) : V G M d bc bs Q pc ls st (jH G b S T fo hS y) :=
  V_callV dg cs (wH_at (tb := tbC) (k := 0) rfl) (kC _) hn hlen hst hd (bc' := bc) (bs' := bs) (by omega) (by omega) hr (fun v h' hq => by cases hq.1; cases hq.2; exact k) (fun E h' hq => by cases hq.1)
theorem J_Cth {E : String} (dg : decode M.2.1 pc = .ok (.invokevirtual idx, 3)) (cs : CV M.1.cls idx mC n 11) (kC : ∀ h0 : xH, VM G mC 80 1 6 (.ref (b + 0) :: as) (xT E (wH G b tbC S h0)) (wH G b tbC S h0)) (hn : as.length = n) (hlen : (lg_sl (.ref (b + 0) :: as)).length ≤ mC.2.2.1) (hst : st = as.reverse ++ .ref (b + 0) :: rest) (hd : 81 ≤ d) (hr : (rest.map fun v => v.category).sum ≤ 8) (k : ∀ y', VX G M d bc bs Q pc ls E (jH G b S T fo hS y')) : V G M d (bc + 1) (bs + 6) Q pc ls st (jH G b S T fo hS y) :=
  V_callV dg cs (wH_at (tb := tbC) (k := 0) rfl) (kC _) hn hlen hst hd (bc' := bc) (bs' := bs) (by omega) (by omega) hr (fun v h' hq => by cases hq.1) (fun E h' hq => by cases hq.1; rw [jH_eq (h' := h') hq.2]; exact k _)
/-- the model is called -/
theorem J_M {P : Option Value → (Nat → Nat → Int32) → Prop} (dg : decode M.2.1 pc = .ok (.invokevirtual idx, 3)) (cs : CV M.1.cls idx mM n 12) (kM : ∀ h0 : xH, VM G mM 80 0 0 (.ref (b + 68 + 0) :: as) (xJ G (b + 68) h0 P) (wH G (b + 68) tbM T h0)) (hn : as.length = n) (hlen : (lg_sl (.ref (b + 68 + 0) :: as)).length ≤ mM.2.2.1) (hst : st = as.reverse ++ .ref (b + 68 + 0) :: rest) (hd : 81 ≤ d) (hr : (rest.map fun v => v.category).sum ≤ 8) (k : ∀ v T', P v T' → V G M d bc bs Q (pc + 3) ls (v.toList ++ rest) (jH G b S T' fo hS y)) : V G M d bc bs Q pc ls st (jH G b S T fo hS y) := by
  rw [jH_M]
  refine V_callV dg cs (wH_at (tb := tbM) (k := 0) rfl) (kM _) hn hlen hst hd (bc' := bc) (bs' := bs) (by omega) (by omega) hr (fun v h' hq => ?_) (fun E h' hq => by obtain ⟨_, _, e, -⟩ := hq; cases e)
  obtain ⟨v', T', e1, e2, e3⟩ := hq
  cases e1
  rw [e2, ← jH_M]
  exact k v T' e3
/-- a wrapper is called -/
theorem J_S {r : Int32} (dg : decode M.2.1 pc = .ok (.invokestatic idx, 3)) (cs : CSH M.1.cls idx M' n) (hV : VM G M' 90 0 0 As (xE (some (.int r)) h1) h) (hn : As.length = n) (hlen : (lg_sl As).length ≤ M'.2.2.1) (hst : st = As.reverse ++ rest) (hd : 91 ≤ d) (hr : (rest.map fun v => v.category).sum ≤ 8) (k : V G M d bc bs Q (pc + 3) ls (.int r :: rest) h1) : V G M d bc bs Q pc ls st h :=
  V_callSH dg cs hV hn hlen hst hd (bc' := bc) (bs' := bs) (by omega) (by omega) hr (fun v h' hq => by cases hq.1; cases hq.2; exact k) (fun E h' hq => by cases hq.1)
theorem J_Sth {r : Int32} (dg : decode M.2.1 pc = .ok (.invokestatic idx, 3)) (cs : CSH M.1.cls idx M' n) (hV : VM G M' 90 1 6 As (xF (some (.int r)) (jH G b S T fo hS y)) (jH G b S T fo hS y)) (hn : As.length = n) (hlen : (lg_sl As).length ≤ M'.2.2.1) (hst : st = As.reverse ++ rest) (hd : 91 ≤ d) (hr : (rest.map fun v => v.category).sum ≤ 8) (k : ∀ y', V G M d bc bs Q (pc + 3) ls (.int r :: rest) (jH G b S T fo hS y')) : V G M d (bc + 1) (bs + 6) Q pc ls st (jH G b S T fo hS y) :=
  V_callSH dg cs hV hn hlen hst hd (bc' := bc) (bs' := bs) (by omega) (by omega) hr (fun v h' hq => by cases hq.1; rw [jH_eq (h' := h') hq.2]; exact k _) (fun E h' hq => by cases hq.1)
theorem J_last {v : Int64} (dg : decode M.2.1 pc = .ok (.lastore, 1)) (hb : gB G ≤ b) (k : V G M d bc bs Q (pc + 1) ls st (jH G b S T (vp_updL fo 0 v) hS y)) : V G M d bc bs Q pc ls (.long v :: .int 0 :: .ref (b + 68 + 35) :: st) (jH G b S T fo hS y) := by
  refine V_last dg jH_out (by omega) (vp_in_nI (n := 0) (N := 1) (by decide) (by decide)) ?_
  rw [show ((0 : Int32)).toNatClampNeg = 0 from rfl, jH_put]
  exact k
theorem J_lald {v : Int64} (dg : decode M.2.1 pc = .ok (.laload, 1)) (hv : fo 0 = v) (k : V G M d bc bs Q (pc + 1) ls (.long v :: st) (jH G b S T fo hS y)) : V G M d bc bs Q pc ls (.int 0 :: .ref (b + 68 + 35) :: st) (jH G b S T fo hS y) := by
  refine V_lald dg jH_out (vp_in_nI (n := 0) (N := 1) (by decide) (by decide)) ?_
  rw [show ((0 : Int32)).toNatClampNeg = 0 from rfl, hv]
  exact k
theorem J_ld {q L j : Nat} {xs : Nat → Int32} {x : Int32} (dg : decode M.2.1 pc = .ok (.iaload, 1)) (hq : gV G 100 = q) (hs : gV G 101 = L ∧ ∀ j, nI (gV G (1000 + j)) = xs j) (hx : x = nI j) (hj : j < L) (hL : L ≤ 3072) (k : V G M d bc bs Q (pc + 1) ls (.int (xs j) :: st) h) : V G M d bc bs Q pc ls (.int x :: .ref q :: st) h := by
  intro p e R s m args below meth c H locs cells slots la C hP hS hl h1 h2
  subst hq
  subst hx
  obtain ⟨e1, e2⟩ := hs
  subst e1
  exact va_ti C.x C.b C.w.sc hS (vp_in_nI hj (by omega)) (v := .int (xs j)) (by rw [nI_clamp (by omega), e2]) dg (k p e R s m args below meth c H locs cells slots la C hP hS hl h1 h2)
theorem J_len {q L : Nat} {xs : Nat → Int32} (dg : decode M.2.1 pc = .ok (.arraylength, 1)) (hq : gV G 100 = q) (hs : gV G 101 = L ∧ ∀ j, nI (gV G (1000 + j)) = xs j) (k : V G M d bc bs Q (pc + 1) ls (.int (nI L) :: st) h) : V G M d bc bs Q pc ls (.ref q :: st) h := by
  intro p e R s m args below meth c H locs cells slots la C hP hS hl h1 h2
  subst hq
  obtain ⟨e1, e2⟩ := hs
  subst e1
  exact va_tlen C.x C.b C.w.sc hS rfl dg (k p e R s m args below meth c H locs cells slots la C hP hS hl h1 h2)
theorem updL0 {f : Nat → Int64} {v : Int64} : vp_updL f 0 v 0 = v := by
  unfold vp_updL
  rw [if_pos rfl]
theorem cmp_0 (x : Int64) : lg_cmp x x = 0 := by
  unfold lg_cmp
  simp
theorem J_thrown {x : Int32} (hx : T 0 2 = x) : ∀ h0 : xH, VM G mX12_thrown 80 0 0 [.ref (b + 68 + 0)] (xJ G (b + 68) h0 (fun v' T' => v' = some (.int x) ∧ T' = T)) (wH G (b + 68) tbM T h0) := fun h0 => xJ_of (by rw [← hx]; exact X12_thrown) ⟨rfl, rfl⟩
theorem VF_iret {v r : Int32} (dg : decode M.2.1 pc = .ok (.ireturn, 1)) (hr : M.2.2.2.1 = some .int) (he : v = r) (hh : h.1 = h1.1) : V G M d bc bs (xF (some (.int r)) h1) pc ls [.int v] h := by
  subst he
  exact V_iret dg hr ⟨rfl, hh⟩
end J0
