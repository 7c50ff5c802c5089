/-! ===== class and model between calls ===== -/
section T1
variable {S T S' T' : Nat → Nat → Int32} {s t n pp r bb o na ns z : Nat}
/-- an act that is kept, on both sides: the class's row f from a on, the model's g from c on -/
def RW (pp : Nat) (f : Nat → Int32) (a : Nat) (g : Nat → Int32) (c : Nat) : Prop :=
  (g c = f (a + 34) ∧ g (c + 1) = f (a + 35) ∧ g (c + 2) = f (a + 32) ∧ g (c + 3) = f (a + 33) ∧ ∃ v, v ≤ 8 ∧ f (a + 33) = nI v) ∧
  ∀ q, q < pp → (g (c + 4 + q) = f (a + q) ∧ g (c + (4 + 8) + q) = f (a + 8 + q) ∧ g (c + (4 + 16) + q) = f (a + 16 + q) ∧ g (c + (4 + 24) + q) = f (a + 24 + q)) ∧ (∃ x, x < 1024 ∧ f (a + q) = nI x) ∧ ∃ x, x < 10 ∧ f (a + 8 + q) = nI x
/-- a state that is kept as an image -/
def IR (pp : Nat) (S : Nat → Nat → Int32) (k : Nat) (g : Nat → Int32) : Prop :=
  (g 0 = S k 6 ∧ g 1 = S k 7 ∧ g 2 = S k 4 ∧ g 3 = S k 5 ∧ ∃ v, v ≤ 8 ∧ S k 5 = nI v) ∧
  ∀ q, q < pp → (g (0 + 4 + q) = S (k + 1) q ∧ g (0 + (4 + 8) + q) = S (k + 2) q ∧ g (0 + (4 + 16) + q) = S (k + 3) q ∧ g (0 + (4 + 24) + q) = S (k + 4) q) ∧ (∃ x, x < 1024 ∧ S (k + 1) q = nI x) ∧ ∃ x, x < 10 ∧ S (k + 2) q = nI x
/-- the acts: a ring beside rows that are shifted -/
def AC (pp : Nat) (S : Nat → Nat → Int32) (k o na : Nat) (g : Nat → Int32) : Prop := S k 1 = nI o ∧ S k 2 = nI na ∧ o < 40 ∧ na ≤ 40 ∧ ∀ i, i < na → RW pp (S (k + 1)) ((o + i) % 40 * 36) g (36 * i)
def SN2 (S T : Nat → Nat → Int32) (k ns : Nat) : Prop := S k 3 = nI ns ∧ T 0 50 = nI ns ∧ ns ≤ 8 ∧ ∀ j, j < ns → S (k + 1) j = T 31 j ∧ S (k + 2) j = T 32 j ∧ T 34 j = b2i (hasB (S k 2) (nI j))
def IMR (pp : Nat) (S T : Nat → Nat → Int32) : Prop := S 28 4 = T 0 48 ∧ (¬ T 0 48 = 0 → ∃ o na ns, IR pp S 29 (T 29) ∧ (AC pp S 34 o na (T 30) ∧ T 0 49 = nI na) ∧ (SN2 S T 36 ns ∧ lowB (S 36 2) ns) ∧ ∀ j, j < 3 → S 39 j = T 33 j)
def B8 (f : Nat → Int32) : Prop := ∀ k, k < 8 → f k = 0 ∨ f k = 1
/-- what neither SUNDAYS nor ACTS change -/
def RELx (S T : Nat → Nat → Int32) (s t pp ns z : Nat) : Prop :=
  ((s = 4 ∧ t = 44) ∨ (s = 44 ∧ t = 4)) ∧ shC (S 1 1) = t ∧ (∀ j, j < 3 → S 27 j = T 14 j) ∧ (SN S T 24 ns ∧ lowB (S 24 2) ns) ∧
  (S 2 4 = nI z ∧ T 0 16 = nI z ∧ z ≤ 700 ∧ ∀ k, k < z → T 15 k = S 3 k &&& 255) ∧ (BO T ∧ B8 (T 28) ∧ B8 (T 34)) ∧ S 0 10 = T 0 25 ∧ IMR pp S T
def RELp (S T : Nat → Nat → Int32) (s t n pp r bb o na ns z : Nat) : Prop := RELx S T s t pp ns z ∧ Rq S T s n pp r bb ∧ AC pp S 22 o na (T 20) ∧ T 0 36 = nI na
/-- class and model between calls -/
def REL (S T : Nat → Nat → Int32) : Prop := ∃ s t n pp r bb o na ns z, RELp S T s t n pp r bb o na ns z
/-- what questions may change in the class -/
def cS (s : Nat) (S S' : Nat → Nat → Int32) : Prop := (∀ k, k ≠ 0 → k ≠ s + 8 → (k < 41 ∨ 43 < k) → (k < 57 ∨ 67 < k) → S' k = S k) ∧ ∀ j, j ≠ 11 → S' 0 j = S 0 j
/-- .. and in the model -/
def tS (T T' : Nat → Nat → Int32) : Prop := (∀ k, 3 ≤ k → (k < 16 ∨ k = 20 ∨ 25 < k) → T' k = T k) ∧ (∀ j, j = 16 ∨ j = 25 ∨ (32 ≤ j ∧ j ≤ 37) ∨ (48 ≤ j ∧ j ≤ 50) → T' 0 j = T 0 j) ∧ ∀ q, q < 8 → T' 16 q = T 16 q ∧ T' 17 q = T 17 q ∧ T' 18 q = T 18 q ∧ T' 19 q = T 19 q
theorem cS.rfl' : cS s S S := ⟨fun _ _ _ _ _ => rfl, fun _ _ => rfl⟩
theorem tS.rfl' : tS T T := ⟨fun _ _ _ => rfl, fun _ _ => rfl, fun _ _ => ⟨rfl, rfl, rfl, rfl⟩⟩
theorem tS.trans {U : Nat → Nat → Int32} (a : tS T T') (c : tS T' U) : tS T U := ⟨fun k h1 h2 => (c.1 k h1 h2).trans (a.1 k h1 h2), fun j h => (c.2.1 j h).trans (a.2.1 j h), fun q hq => ⟨(c.2.2 q hq).1.trans (a.2.2 q hq).1, (c.2.2 q hq).2.1.trans (a.2.2 q hq).2.1, (c.2.2 q hq).2.2.1.trans (a.2.2 q hq).2.2.1, (c.2.2 q hq).2.2.2.trans (a.2.2 q hq).2.2.2⟩⟩
theorem tS.u2 {j : Nat} {x : Int32} (hj : j ≠ 16 ∧ j ≠ 25 ∧ (j < 32 ∨ 37 < j) ∧ (j < 48 ∨ 50 < j)) : tS T (up2 T 0 j x) := ⟨fun k h1 _ => up2_row (by omega), fun i h => up2_col (by omega), fun q _ => by rw [up2_row (by decide), up2_row (by decide), up2_row (by decide), up2_row (by decide)]; exact ⟨rfl, rfl, rfl, rfl⟩⟩
theorem cS.wsm (w : Wsm s S S') : cS s S S' := ⟨fun k _ h2 _ h4 => w k h2 h4, fun j _ => by rw [w 0 (by omega) (by omega)]⟩
theorem cS.row {k : Nat} {f : Nat → Int32} (h : 41 ≤ k ∧ k ≤ 43) : cS s S (upR S k f) := ⟨fun k' _ _ h3 _ => upR_row (by omega), fun j _ => by rw [upR_row (by omega)]⟩
theorem PO.q (h8 : pp ≤ 8) (po : PO T pp) (m : tS T T') : PO T' pp := fun q hq => by
  rw [(m.2.2 q (by omega)).1, (m.2.2 q (by omega)).2.1]
  exact po q hq
theorem MI.q (mi : MI T n pp r bb) (m : tS T T') : MI T' n pp r bb := mi.same (fun k h1 h2 => m.1 k (by omega) (by omega)) (m.2.1 35 (by decide))
/-- rows of the model that neither SUNDAYS nor ACTS touch -/
def tX (T T' : Nat → Nat → Int32) : Prop := (∀ k, k = 14 ∨ k = 15 ∨ 25 < k → T' k = T k) ∧ ∀ j, j = 16 ∨ j = 25 ∨ j = 37 ∨ (48 ≤ j ∧ j ≤ 50) → T' 0 j = T 0 j
theorem tS.x (m : tS T T') : tX T T' := ⟨fun k h => m.1 k (by omega) (by omega), fun j h => m.2.1 j (by omega)⟩
theorem SN.same {k : Nat} (h : SN S T k ns) (e : ∀ j, k ≤ j → j ≤ k + 2 → S' j = S j) (m : tX T T') : SN S' T' k ns := by
  unfold SN at *
  rw [e k (by omega) (by omega), e (k + 1) (by omega) (by omega), e (k + 2) (by omega) (by omega), m.2 37 (by decide), m.1 26 (by decide), m.1 27 (by decide), m.1 28 (by decide)]
  exact h
theorem SN2.same {k : Nat} (h : SN2 S T k ns) (e : ∀ j, k ≤ j → j ≤ k + 2 → S' j = S j) (m : tX T T') : SN2 S' T' k ns := by
  unfold SN2 at *
  rw [e k (by omega) (by omega), e (k + 1) (by omega) (by omega), e (k + 2) (by omega) (by omega), m.2 50 (by decide), m.1 31 (by decide), m.1 32 (by decide), m.1 34 (by decide)]
  exact h
theorem AC.same {k : Nat} {g : Nat → Int32} (h : AC pp S k o na g) (e : S' k = S k) (e1 : S' (k + 1) = S (k + 1)) : AC pp S' k o na g := by
  unfold AC at *
  rw [e, e1]
  exact h
theorem IR.same {k : Nat} {g : Nat → Int32} (h : IR pp S k g) (e : ∀ j, k ≤ j → j ≤ k + 4 → S' j = S j) : IR pp S' k g := by
  unfold IR at *
  rw [e k (by omega) (by omega), e (k + 1) (by omega) (by omega), e (k + 2) (by omega) (by omega), e (k + 3) (by omega) (by omega), e (k + 4) (by omega) (by omega)]
  exact h
theorem IMR.same (h : IMR pp S T) (e : ∀ j, 28 ≤ j → j ≤ 39 → S' j = S j) (m : tX T T') : IMR pp S' T' := by
  obtain ⟨h1, h2⟩ := h
  refine ⟨by rw [e 28 (by decide) (by decide), m.2 48 (by decide)]; exact h1, fun q => ?_⟩
  rw [m.2 48 (by decide)] at q
  obtain ⟨o, na, ns, a1, ⟨a2, a3⟩, ⟨a4, a5⟩, a6⟩ := h2 q
  refine ⟨o, na, ns, ?_, ⟨?_, ?_⟩, ⟨?_, ?_⟩, ?_⟩
  · rw [m.1 29 (by decide)]; exact a1.same (fun j _ _ => e j (by omega) (by omega))
  · rw [m.1 30 (by decide)]; exact a2.same (e 34 (by decide) (by decide)) (e 35 (by decide) (by decide))
  · rw [m.2 49 (by decide)]; exact a3
  · exact a4.same (fun j _ _ => e j (by omega) (by omega)) m
  · rw [e 36 (by decide) (by decide)]; exact a5
  · rw [e 39 (by decide) (by decide), m.1 33 (by decide)]; exact a6
theorem RELx.same (h : RELx S T s t pp ns z) (e : ∀ k, (1 ≤ k ∧ k ≤ 3) ∨ (24 ≤ k ∧ k ≤ 39) → S' k = S k) (e0 : S' 0 10 = S 0 10) (m : tX T T') : RELx S' T' s t pp ns z := by
  obtain ⟨hst, h1, h4, ⟨h5, h5b⟩, ⟨h6, h6b, h6c, h6d⟩, ⟨h7, h7b, h7c⟩, h8, h9⟩ := h
  refine ⟨hst, ?_, ?_, ⟨?_, ?_⟩, ⟨?_, ?_, h6c, ?_⟩, ⟨?_, ?_, ?_⟩, ?_, h9.same (fun j _ _ => e j (by omega)) m⟩
  · rw [e 1 (by decide)]; exact h1
  · rw [e 27 (by decide), m.1 14 (by decide)]; exact h4
  · exact h5.same (fun j _ _ => e j (by omega)) m
  · rw [e 24 (by decide)]; exact h5b
  · rw [e 2 (by decide)]; exact h6
  · rw [m.2 16 (by decide)]; exact h6b
  · rw [m.1 15 (by decide), e 3 (by decide)]; exact h6d
  · unfold BO at *; rw [m.1 15 (by decide)]; exact h7
  · rw [m.1 28 (by decide)]; exact h7b
  · rw [m.1 34 (by decide)]; exact h7c
  · rw [e0, m.2 25 (by decide)]; exact h8
theorem Rq.q (hs : s = 4 ∨ s = 44) (h : Rq S T s n pp r bb) (c : cS s S S') (m : tS T T') : Rq S' T' s n pp r bb := by
  obtain ⟨ri, sh, ⟨⟨l1, l2, l3⟩, l4⟩, mi, po⟩ := h
  have h8 : pp ≤ 8 := mi.2.2.2.2.1
  have e : ∀ k, k ≠ 0 → k ≠ s + 8 → (k < 41 ∨ 43 < k) → (k < 57 ∨ 67 < k) → S' k = S k := c.1
  refine ⟨?_, sh.off (fun k _ _ _ => e k (by omega) (by omega) (by omega) (by omega)) (fun k _ _ => m.1 k (by omega) (by omega)), ⟨?_, fun q hq => ?_⟩, mi.q m, po.q h8 m⟩
  · unfold RI at *
    rw [c.2 9 (by decide), e (s + 2) (by omega) (by omega) (by omega) (by omega), e (s + 5) (by omega) (by omega) (by omega) (by omega), e s (by omega) (by omega) (by omega) (by omega), e (s + 6) (by omega) (by omega) (by omega) (by omega), e 17 (by omega) (by omega) (by omega) (by omega)]
    exact ri
  · rw [m.2.1 32 (by decide), m.2.1 33 (by decide), m.2.1 34 (by decide), e 17 (by omega) (by omega) (by omega) (by omega)]
    exact ⟨l1, l2, l3⟩
  · rw [(m.2.2 q (by omega)).1, (m.2.2 q (by omega)).2.1, (m.2.2 q (by omega)).2.2.1, (m.2.2 q (by omega)).2.2.2, e (17 + 1) (by omega) (by omega) (by omega) (by omega), e (17 + 2) (by omega) (by omega) (by omega) (by omega), e (17 + 3) (by omega) (by omega) (by omega) (by omega), e (17 + 4) (by omega) (by omega) (by omega) (by omega)]
    exact l4 q hq
/-- behind a question class and model are as they were -/
theorem RELp.same (h : RELp S T s t n pp r bb o na ns z) (c : cS s S S') (m : tS T T') : RELp S' T' s t n pp r bb o na ns z := by
  obtain ⟨h1, h2, h3, h4⟩ := h
  have hs : s = 4 ∨ s = 44 := by have := h1.1; omega
  refine ⟨h1.same (fun k _ => c.1 k (by omega) (by omega) (by omega) (by omega)) (c.2 10 (by decide)) m.x, h2.q hs c m, ?_, ?_⟩
  · rw [m.1 20 (by decide) (by decide)]; exact h3.same (c.1 22 (by omega) (by omega) (by omega) (by omega)) (c.1 23 (by omega) (by omega) (by omega) (by omega))
  · rw [m.2.1 36 (by decide)]; exact h4
/-! ===== a pair of calls ===== -/
/-- the model's end, told by what holds of it -/
def xJ (G : xG) (b : Nat) (h0 : xH) (P : Option Value → (Nat → Nat → Int32) → Prop) : xR → xH → Prop := fun r h => ∃ v T', r = .inl v ∧ h = wH G b tbM T' h0 ∧ P v T'
/-- both answer v, and are alike again -/
def Pok (mC mM : xM) (as : List Value) (S T : Nat → Nat → Int32) (v : Option Value) : Prop := ∃ S', (∀ (G : xG) (b d : Nat) (h0 : xH), gB G ≤ b → 80 ≤ d → VM G mC d 0 0 (.ref (b + 0) :: as) (xE v (wH G b tbC S' h0)) (wH G b tbC S h0)) ∧
  ∀ (G : xG) (b d : Nat) (h0 : xH), gB G ≤ b → 80 ≤ d → VM G mM d 0 0 (.ref (b + 0) :: as) (xJ G b h0 (fun v' T' => v' = v ∧ T' 0 2 = 0 ∧ REL S' T')) (wH G b tbM T h0)
/-- the class throws E, the model answers 0 and its code is k; they are alike as before -/
def Pth (mC mM : xM) (as : List Value) (S T : Nat → Nat → Int32) (E : String) (k : Int32) : Prop := (∀ (G : xG) (b d : Nat) (h0 : xH), gB G ≤ b → 80 ≤ d → VM G mC d 1 6 (.ref (b + 0) :: as) (xT E (wH G b tbC S h0)) (wH G b tbC S h0)) ∧
  ∀ (G : xG) (b d : Nat) (h0 : xH), gB G ≤ b → 80 ≤ d → VM G mM d 0 0 (.ref (b + 0) :: as) (xJ G b h0 (fun v' T' => v' = some (.int 0) ∧ T' 0 2 = k ∧ REL S T')) (wH G b tbM T h0)
theorem xJ_of {G : xG} {M : xM} {d b : Nat} {as : List Value} {h0 h : xH} {v : Option Value} {T' : Nat → Nat → Int32} {P : Option Value → (Nat → Nat → Int32) → Prop} (k : VM G M d 0 0 as (xE v (wH G b tbM T' h0)) h) (hp : P v T') : VM G M d 0 0 as (xJ G b h0 P) h :=
  V_post (fun r h q => ⟨v, T', q.1, q.2, hp⟩) k
/-- a question, answered -/
theorem Pok.q {mC mM : xM} {as : List Value} {v : Option Value} (h : RELp S T s t n pp r bb o na ns z) (kC : ∀ (G : xG) (b d : Nat) (h0 : xH), gB G ≤ b → 80 ≤ d → VM G mC d 0 0 (.ref (b + 0) :: as) (xE v (wH G b tbC S' h0)) (wH G b tbC S h0)) (kM : ∀ (G : xG) (b d : Nat) (h0 : xH), gB G ≤ b → 80 ≤ d → VM G mM d 0 0 (.ref (b + 0) :: as) (xE v (wH G b tbM T' h0)) (wH G b tbM T h0)) (c : cS s S S') (m : tS T T') (hz : T' 0 2 = 0) : Pok mC mM as S T v :=
  ⟨S', kC, fun G b d h0 hb hd => xJ_of (kM G b d h0 hb hd) ⟨rfl, hz, _, _, _, _, _, _, _, _, _, _, h.same c m⟩⟩
/-- .. without any trace -/
theorem Pok.q0 {mC mM : xM} {as : List Value} {v : Option Value} (h : RELp S T s t n pp r bb o na ns z) (kC : ∀ (G : xG) (b d : Nat) (h0 : xH), gB G ≤ b → 80 ≤ d → VM G mC d 0 0 (.ref (b + 0) :: as) (xE v (wH G b tbC S h0)) (wH G b tbC S h0)) (kM : ∀ (G : xG) (b d : Nat) (h0 : xH), gB G ≤ b → 80 ≤ d → VM G mM d 0 0 (.ref (b + 0) :: as) (xE v (wH G b tbM (up2 T 0 2 0) h0)) (wH G b tbM T h0)) : Pok mC mM as S T v :=
  Pok.q h kC kM cS.rfl' (tS.u2 (by decide)) up2_same
/-- a question, refused -/
theorem Pth.q {mC mM : xM} {as : List Value} {E : String} {k : Int32} (h : RELp S T s t n pp r bb o na ns z) (kC : ∀ (G : xG) (b d : Nat) (h0 : xH), gB G ≤ b → 80 ≤ d → VM G mC d 1 6 (.ref (b + 0) :: as) (xT E (wH G b tbC S h0)) (wH G b tbC S h0)) (kM : ∀ (G : xG) (b d : Nat) (h0 : xH), gB G ≤ b → 80 ≤ d → VM G mM d 0 0 (.ref (b + 0) :: as) (xE (some (.int 0)) (wH G b tbM (up2 (up2 T 0 2 0) 0 2 k) h0)) (wH G b tbM T h0)) : Pth mC mM as S T E k :=
  ⟨kC, fun G b d h0 hb hd => xJ_of (kM G b d h0 hb hd) ⟨rfl, up2_same, _, _, _, _, _, _, _, _, _, _, h.same cS.rfl' ((tS.u2 (by decide)).trans (tS.u2 (by decide)))⟩⟩
theorem RELp.rq (h : RELp S T s t n pp r bb o na ns z) : Rq S T s n pp r bb := h.2.1
theorem RELp.ri (h : RELp S T s t n pp r bb o na ns z) : RI S s n pp r bb := h.2.1.1
theorem RELp.mi (h : RELp S T s t n pp r bb o na ns z) : MI T n pp r bb := h.2.1.2.2.2.1
theorem RELp.po (h : RELp S T s t n pp r bb o na ns z) : PO T pp := h.2.1.2.2.2.2
theorem RELp.hs (h : RELp S T s t n pp r bb o na ns z) : s = 4 ∨ s = 44 := by have := h.1.1; omega
theorem RELp.sn (h : RELp S T s t n pp r bb o na ns z) : SN S T 24 ns := h.1.2.2.2.1.1
theorem RELp.ac (h : RELp S T s t n pp r bb o na ns z) : AC pp S 22 o na (T 20) ∧ T 0 36 = nI na := h.2.2
theorem RELp.st (h : RELp S T s t n pp r bb o na ns z) : ∀ j, j < 3 → S 27 j = T 14 j := h.1.2.2.1
theorem RELp.tp (h : RELp S T s t n pp r bb o na ns z) : S 2 4 = nI z ∧ T 0 16 = nI z ∧ z ≤ 700 ∧ ∀ k, k < z → T 15 k = S 3 k &&& 255 := h.1.2.2.2.2.1
theorem RELp.fp (h : RELp S T s t n pp r bb o na ns z) : S 0 10 = T 0 25 := h.1.2.2.2.2.2.2.1
/-- in a range, or not -/
theorem rng {x l' m' : Int32} (l m : Nat) (e1 : nI l = l') (e2 : nI m = m') (hl : l < 2 ^ 31) (hm : m < 2 ^ 31) : (x < l' ∨ m' < x) ∨ ∃ k, l ≤ k ∧ k ≤ m ∧ x = nI k := by
  subst e1; subst e2
  by_cases h1 : x < nI l
  · exact Or.inl (Or.inl h1)
  · by_cases h2 : nI m < x
    · exact Or.inl (Or.inr h2)
    · right
      have a1 := Int32.not_lt.mp h1
      have a2 := Int32.not_lt.mp h2
      rw [Int32.le_iff_toInt_le] at a1 a2
      rw [nI_toInt hl] at a1
      rw [nI_toInt hm] at a2
      refine ⟨x.toInt.toNat, by omega, by omega, Int32.toInt_inj.mp ?_⟩
      rw [nI_toInt (by omega)]
      omega
theorem rngp {x : Int32} (n : Nat) (hn : n ≤ 12) : (x < 0 ∨ nI n ≤ x) ∨ ∃ k, k < n ∧ x = nI k := by
  by_cases h1 : x < 0
  · exact Or.inl (Or.inl h1)
  · by_cases h2 : nI n ≤ x
    · exact Or.inl (Or.inr h2)
    · right
      obtain ⟨j, hj, rfl⟩ := nI_of h1
      exact ⟨j, Nat.not_le.mp fun q => h2 (nI_le q hj), rfl⟩
theorem outp {x : Int32} {n : Nat} (hn : n ≤ 12) (h : x < 0 ∨ nI n ≤ x) : inR x 0 (nI n - 1) = false := by
  rcases h with h | h
  · exact inR_out (Or.inl h)
  · by_cases h0 : x < 0
    · exact inR_out (Or.inl h0)
    · refine inR_out (Or.inr ?_)
      obtain ⟨j, hj, rfl⟩ := nI_of h0
      have hj2 : n ≤ j := (nI_leI (by omega) hj).mp h
      cases n with
      | zero => exact Int32.lt_iff_toInt_lt.mpr (by rw [nI_toInt hj]; show (-1 : Int) < _; omega)
      | succ n => rw [nI_pred]; exact nI_lt (by omega) hj
theorem th10 (x : Int32) : (x < 0 ∨ 10 ≤ x) ∨ ∃ k, k < 10 ∧ x = nI k := rngp 10 (by decide)
theorem out10 {x : Int32} (h : x < 0 ∨ 10 ≤ x) : inR x 0 9 = false := outp (n := 10) (by decide) h
end T1
