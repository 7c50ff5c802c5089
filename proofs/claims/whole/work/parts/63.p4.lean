/-! ===== both readers side by side: an EXPR ===== -/
section P4
variable {G : xG} {M M' : xM} {d d' bc bs idx pc : Nat} {b : Nat} {ls : List (Option Value)} {st : List Value} {Q : xR → xH → Prop} {S S1 S2 S3 T T1 T2 T3 U Z : Nat → Nat → Int32} {h0 h : xH} {t : Nat}
/-- what reading an EXPR leaves as it is -/
def EX (Z T : Nat → Nat → Int32) : Prop := (∀ k, k ≠ 0 → k ≠ 3 → k ≠ 13 → T k = Z k) ∧ (∀ j, j < 17 ∨ j = 18 ∨ 24 < j → T 0 j = Z 0 j) ∧ (∀ j, j ≠ 7 → T 3 j = Z 3 j) ∧ ∀ j, j < 700 → T 13 j = Z 13 j
theorem EX.rfl' : EX T T := ⟨fun _ _ _ _ => rfl, fun _ _ => rfl, fun _ _ => rfl, fun _ _ => rfl⟩
theorem EX.trans (a : EX Z T) (c : EX T U) : EX Z U := ⟨fun k h1 h2 h3 => (c.1 k h1 h2 h3).trans (a.1 k h1 h2 h3), fun j h => (c.2.1 j h).trans (a.2.1 j h), fun j h => (c.2.2.1 j h).trans (a.2.2.1 j h), fun j h => (c.2.2.2 j h).trans (a.2.2.2 j h)⟩
theorem EX_step {L p : Nat} : EX T (mStep T L p) := ⟨fun k h1 _ _ => mStep_off h1, fun j h => mStep_0 (by omega), fun j _ => by rw [mStep_off (by decide)], fun j _ => by rw [mStep_off (by decide)]⟩
theorem EX_wrg {k : Int32} : EX T (wrg T k) := ⟨fun k h1 _ _ => by unfold wrg; rw [up2_row h1, up2_row h1], fun j h => by unfold wrg; rw [up2_col (by omega), up2_col (by omega)], fun j _ => by unfold wrg; rw [up2_row (by decide), up2_row (by decide)], fun j _ => by unfold wrg; rw [up2_row (by decide), up2_row (by decide)]⟩
theorem EX_lay {r : Nat} {x : Int32} : EX T (layS T r x) := ⟨fun k h1 h2 h3 => by unfold layS; rw [up2_row h2, up2_row h3], fun j h => by unfold layS; rw [up2_row (by decide), up2_row (by decide)], fun j h => by unfold layS; rw [up2_col h, up2_row (by decide)], fun j h => by unfold layS; rw [up2_row (by decide), up2_col (by omega)]⟩
theorem layS_15 {r : Nat} {x : Int32} : layS T r x 15 = T 15 := by unfold layS; rw [up2_row (by decide), up2_row (by decide)]
theorem layS_0 {r : Nat} {x : Int32} : layS T r x 0 = T 0 := by unfold layS; rw [up2_row (by decide), up2_row (by decide)]
/-- ahead of an EXPR -/
def Pre (S T : Nat → Nat → Int32) (t : Nat) : Prop := RTk S T ∧ T 0 23 = 0 ∧ (t = 4 ∨ t = 44) ∧ ∃ r, T 3 7 = nI r ∧ S (t + 6) 2 = nI r ∧ r ≤ tP S ∧ ∀ i, i < r → T 13 (700 + i) = cmS (S (t + 7) i)
/-- behind one that was read well: D is how many more it lays on the stack -/
def XOk (D : Nat) (S T S' T' : Nat → Nat → Int32) (t : Nat) : Prop := RTk S' T' ∧ T' 0 23 = 0 ∧ EX T T' ∧ (t = 4 ∨ t = 44) ∧ ∃ r r', T 3 7 = nI r ∧ r ≤ 700 ∧ T' 3 7 = nI r' ∧ S' (t + 6) 2 = nI r' ∧ r ≤ r' ∧ r' + tP S ≤ r + tP S' ∧ r' ≤ tP S' ∧ (∀ i, i < r → T' 13 (700 + i) = T 13 (700 + i)) ∧ (∀ i, i < r' → T' 13 (700 + i) = cmS (S' (t + 7) i)) ∧ ∀ x, x + D ≤ 64 → dpF (fun j => T' 13 (700 + j)) (r' - r) r x = some (x + 1)
def XQ (D : Nat) (S T : Nat → Nat → Int32) (t : Nat) (R : Bool × (Nat → Nat → Int32)) : (Nat → Nat → Int32) → Prop := fun T' => if R.1 then XOk D S T R.2 T' t else RB R.2 T' ∧ EX T T'
def xXm (G : xG) (b : Nat) (h0 : xH) (P : (Nat → Nat → Int32) → Prop) : xR → xH → Prop := fun r h => r = .inl none ∧ ∃ T', h = wH G b tbM T' h0 ∧ P T'
def XC (G : xG) (b : Nat) (h0 : xH) (M : xM) (D dd w t : Nat) (F : (Nat → Nat → Int32) → Bool × (Nat → Nat → Int32)) : Prop := ∀ (S T : Nat → Nat → Int32) (d : Nat), dd ≤ d → Pre S T t → VM G M d 0 0 [.ref (b + 0), .int (nI w)] (xXm G b h0 (XQ D S T t (F S))) (wH G b tbM T h0)
theorem V_X1 {v1 : Value} {P : (Nat → Nat → Int32) → Prop} (dg : decode M.2.1 pc = .ok (.invokevirtual idx, 3)) (cs : CV M.1.cls idx M' 1 12) {ks : List Nat} (hk : tbM[0]? = some (.inr (12, ks))) (hV : VM G M' d' 0 0 [.ref (b + 0), v1] (xXm G b h0 P) (wH G b tbM S h0)) (hlen : (lg_sl [.ref (b + 0), v1]).length ≤ M'.2.2.1) (hd : d' + 1 ≤ d) (hr : (st.map fun v => v.category).sum ≤ 8) (k : ∀ T', P T' → V G M d bc bs Q (pc + 3) ls st (wH G b tbM T' h0)) : V G M d bc bs Q pc ls (v1 :: .ref (b + 0) :: st) (wH G b tbM S h0) :=
  V_callV dg cs (wH_at hk) hV rfl hlen rfl hd (bc' := bc) (bs' := bs) (by omega) (by omega) hr (fun v h' hq => by obtain ⟨e, T', rfl, hp⟩ := hq; cases e; exact k T' hp) (fun E h' hq => by cases hq.1)
theorem XOk.pre {D : Nat} (x : XOk D S T S1 T1 t) : Pre S1 T1 t := by
  obtain ⟨a1, a2, a3, a4, r, r', b1, b2, b3, b4, b5, b6, b7, b8, b9, b10⟩ := x
  exact ⟨a1, a2, a4, r', b3, b4, b7, b9⟩
theorem XOk.mono {D D' : Nat} (x : XOk D S T S1 T1 t) (h : D ≤ D') : XOk D' S T S1 T1 t := by
  obtain ⟨a1, a2, a3, a4, r, r', b1, b2, b3, b4, b5, b6, b7, b8, b9, b10⟩ := x
  exact ⟨a1, a2, a3, a4, r, r', b1, b2, b3, b4, b5, b6, b7, b8, b9, fun y hy => b10 y (by omega)⟩
theorem tP7 (h : RTk S T) : tP S ≤ tE S ∧ tE S ≤ tL S ∧ tL S ≤ 700 := ⟨h.1.2.2.2.2.1, h.1.2.2.2.2.2, h.1.2.1⟩
theorem RTk_lt (h : RTk S T) (hk : ¬ S 2 6 = 0) : tP S < tL S ∧ tP S < tE S := by
  have hP := kind_lt h.2.1 (by rw [← h.2.2.1]; exact hk)
  exact ⟨hP, h.2.2.2.2.2.2 hP⟩
theorem adv_P (h : RTk S T) : tE S ≤ tP (adv S) := by
  rw [(TI_adv h.1).2.2.1]
  exact (tkP_le h.1.2.2.2.2.2).1
theorem Pre_adv (p : Pre S T t) (hk : ¬ S 2 6 = 0) : Pre (adv S) (mAd S T) t ∧ tP S < tP (adv S) := by
  obtain ⟨a1, a2, a4, r, b1, b2, b3, b4⟩ := p
  have h1 := RTk_lt a1 hk
  have h2 := adv_P a1
  refine ⟨⟨RTk_adv a1, by unfold mAd; rw [mStep_0 (by omega)]; exact a2, a4, r, by unfold mAd; rw [mStep_off (by decide)]; exact b1, by rw [adv_off (by omega)]; exact b2, by omega, ?_⟩, by omega⟩
  intro i hi
  unfold mAd
  rw [mStep_off (by decide), adv_off (by omega)]
  exact b4 i hi
theorem raS_r {r : Nat} {x : Int32} (hr : S (t + 6) 2 = nI r) (h7 : r < 700) : raS S t x = up2 (up2 S (t + 7) r x) (t + 6) 2 (nI (r + 1)) := by
  unfold raS
  rw [hr, nI_clamp (by omega), if_pos h7, nI_1]
theorem raS_off {x : Int32} {k : Nat} (h1 : k ≠ t + 6) (h2 : k ≠ t + 7) : raS S t x k = S k := by
  unfold raS
  split
  · rw [up2_row h1, up2_row h2]
  · rfl
theorem RTk_ra {r : Nat} {x y : Int32} (h : RTk S T) (ht : t = 4 ∨ t = 44) : RTk (raS S t x) (layS T r y) := RTk_of h (raS_off (by omega) (by omega)) (raS_off (by omega) (by omega)) (fun j _ _ => by rw [layS_0]) layS_15
/-- a sign is laid on both sides -/
theorem XOk_lay {D D' r0 r1 a x' : Nat} {op : Int32} (h : RTk S1 T1) (h0' : T1 0 23 = 0) (ex : EX T T1) (ht : t = 4 ∨ t = 44) (b1 : T 3 7 = nI r0) (b2 : r0 ≤ 700) (b3 : T1 3 7 = nI r1) (b4 : S1 (t + 6) 2 = nI r1) (b5 : r0 ≤ r1) (b6 : r1 + 1 + tP S ≤ r0 + tP S1) (b7 : r1 + 1 ≤ tP S1) (b8 : ∀ i, i < r0 → T1 13 (700 + i) = T 13 (700 + i)) (b9 : ∀ i, i < r1 → T1 13 (700 + i) = cmS (S1 (t + 7) i)) (b10 : ∀ x, x + D ≤ 64 → dpF (fun j => layS T1 r1 (cmS op) 13 (700 + j)) (r1 + 1 - r0) r0 x = some (x + 1)) : XOk D S T (raS S1 t op) (layS T1 r1 (cmS op)) t := by
  have h7 := tP7 h
  have e2 : raS S1 t op 2 = S1 2 := raS_off (by omega) (by omega)
  have eP : tP (raS S1 t op) = tP S1 := by unfold tP; rw [e2]
  have hr := raS_r (x := op) b4 (show r1 < 700 by omega)
  refine ⟨RTk_ra h ht, by rw [layS_0]; exact h0', ex.trans EX_lay, ht, r0, r1 + 1, b1, b2, ?_, ?_, by omega, by rw [eP]; omega, by rw [eP]; omega, ?_, ?_, b10⟩
  · unfold layS; rw [up2_same]
  · rw [hr, up2_same]
  · intro i hi
    unfold layS
    rw [up2_row (by decide), up2_col (by omega)]
    exact b8 i hi
  · intro i hi
    rw [hr, up2_row (by omega)]
    unfold layS
    rw [up2_row (by decide)]
    by_cases e : i = r1
    · subst e; rw [up2_same, up2_same]
    · rw [up2_col (by omega), up2_col e]
      exact b9 i (by omega)
/-- the binary operators -/
def binO (op : Int32) : Prop := op = 10008 ∨ op = 10009 ∨ op = 10010 ∨ op = 10011 ∨ op = 10012 ∨ op = 10013 ∨ op = 10014 ∨ op = 10015
theorem binO_c {op : Int32} (h : binO op) : cmS op ≤ -20 ∧ ¬ cmS op = -28 := by
  rcases h with e | e | e | e | e | e | e | e <;> subst e <;> decide
/-- an operator between two -/
theorem XOk_op {D D0 : Nat} {op : Int32} (x : XOk D S T S1 T1 t) (hk : ¬ S1 2 6 = 0) (y : XOk D0 (adv S1) (mAd S1 T1) S3 T3 t) (hD : D0 + 1 ≤ D) (ho : binO op) : ∃ r3, T3 3 7 = nI r3 ∧ r3 < 700 ∧ XOk D S T (raS S3 t op) (layS T3 r3 (cmS op)) t := by
  obtain ⟨p2, lt2⟩ := Pre_adv x.pre hk
  obtain ⟨a1, a2, a3, a4, r0, r1, b1, b2, b3, b4, b5, b6, b7, b8, b9, b10⟩ := x
  obtain ⟨c1, c2, c3, c4, q, r3, d1, d2, d3, d4, d5, d6, d7, d8, d9, d10⟩ := y
  have eq1 : q = r1 := by
    have e : mAd S1 T1 3 7 = nI r1 := by unfold mAd; rw [mStep_off (by decide)]; exact b3
    have h7 := tP7 a1
    exact (nI_eq (by omega) (by omega)).mp (d1.symm.trans e)
  subst eq1
  have e13 : ∀ i, mAd S1 T1 13 i = T1 13 i := fun i => by unfold mAd; rw [mStep_off (by decide)]
  have h7 := tP7 c1
  have h71 := tP7 a1
  refine ⟨r3, d3, by omega, XOk_lay (D := D) (D' := 0) (a := 0) (x' := 0) c1 c2 ((a3.trans EX_step).trans c3) a4 b1 b2 d3 d4 (by omega) (by omega) (by omega) (fun i hi => by rw [d8 i (by omega), e13]; exact b8 i hi) d9 ?_⟩
  intro z hz
  have L1 : dpF (fun j => layS T3 r3 (cmS op) 13 (700 + j)) (q - r0) r0 z = some (z + 1) := by
    rw [dpF_congr (cd' := fun j => T1 13 (700 + j)) _ _ _ (fun j h1 h2 => by
      show layS T3 r3 (cmS op) 13 (700 + j) = T1 13 (700 + j)
      unfold layS
      rw [up2_row (by decide), up2_col (by omega), d8 j (by omega), e13])]
    exact b10 z hz
  have L2 : dpF (fun j => layS T3 r3 (cmS op) 13 (700 + j)) (r3 - q) q (z + 1) = some (z + 2) := by
    rw [dpF_congr (cd' := fun j => T3 13 (700 + j)) _ _ _ (fun j h1 h2 => by
      show layS T3 r3 (cmS op) 13 (700 + j) = T3 13 (700 + j)
      unfold layS
      rw [up2_row (by decide), up2_col (by omega)])]
    exact d10 (z + 1) (by omega)
  have L3 : dpF (fun j => layS T3 r3 (cmS op) 13 (700 + j)) 1 r3 (z + 2) = some (z + 1) := by
    obtain ⟨o1, o2⟩ := binO_c ho
    have e : layS T3 r3 (cmS op) 13 (700 + r3) = cmS op := by unfold layS; rw [up2_row (by decide), up2_same]
    rw [dpF]
    simp only [e]
    rw [if_pos o1, if_neg o2, if_pos (by omega), dpF]
    rfl
  have L12 := dpF_app (y := r3 - q) _ _ _ L1
  rw [show r0 + (q - r0) = q by omega, L2] at L12
  have L123 := dpF_app (y := 1) _ _ _ L12.symm
  rw [show r0 + (q - r0 + (r3 - q)) = r3 by omega, L3] at L123
  rw [show r3 + 1 - r0 = q - r0 + (r3 - q) + 1 by omega]
  exact L123.symm
/-- NOTS behind what they deny -/
def layN : Nat → Nat → (Nat → Nat → Int32) → Nat → Nat → Int32
  | 0, _, T => T
  | m + 1, r, T => layN m (r + 1) (layS T r (-28))
theorem XOk_not {D : Nat} : ∀ (m : Nat) (S2 T2 : Nat → Nat → Int32) (r0 r1 : Nat), XOk D S T S2 T2 t → T 3 7 = nI r0 → r0 ≤ 700 → T2 3 7 = nI r1 → r1 ≤ 700 → r1 + m + tP S ≤ r0 + tP S2 → r1 + m ≤ tP S2 → XOk D S T (notF t m S2) (layN m r1 T2) t := by
  intro m
  induction m with
  | zero => intro S2 T2 r0 r1 x _ _ _ _ _ _; exact x
  | succ m ih =>
    intro S2 T2 r0 r1 x z1 z2 z3 z4 z5 z6
    obtain ⟨a1, a2, a3, a4, r0', r1', b1, b2, b3, b4, b5, b6, b7, b8, b9, b10⟩ := id x
    have h7 := tP7 a1
    have e0 : r0' = r0 := (nI_eq (by omega) (by omega)).mp (b1.symm.trans z1)
    have e1 : r1' = r1 := (nI_eq (by omega) (by omega)).mp (b3.symm.trans z3)
    subst e0 e1
    have cm28 : cmS 10007 = -28 := by decide
    have x2 : XOk D S T (raS S2 t 10007) (layS T2 r1' (cmS 10007)) t := XOk_lay (D := D) (D' := 0) (a := 0) (x' := 0) a1 a2 a3 a4 b1 b2 b3 b4 b5 (by omega) (by omega) b8 b9 (by
      intro z hz
      have L1 : dpF (fun j => layS T2 r1' (cmS 10007) 13 (700 + j)) (r1' - r0') r0' z = some (z + 1) := by
        rw [dpF_congr (cd' := fun j => T2 13 (700 + j)) _ _ _ (fun j h1 h2 => by
          show layS T2 r1' (cmS 10007) 13 (700 + j) = T2 13 (700 + j)
          unfold layS
          rw [up2_row (by decide), up2_col (by omega)])]
        exact b10 z hz
      have e : layS T2 r1' (cmS 10007) 13 (700 + r1') = -28 := by unfold layS; rw [up2_row (by decide), up2_same, cm28]
      have L3 : dpF (fun j => layS T2 r1' (cmS 10007) 13 (700 + j)) 1 r1' (z + 1) = some (z + 1) := by
        rw [dpF]
        simp only [e]
        rw [if_pos (by decide), if_pos trivial, if_pos (by omega), dpF]
      have L12 := dpF_app (y := 1) _ _ _ L1
      rw [show r0' + (r1' - r0') = r1' by omega, L3] at L12
      rw [show r1' + 1 - r0' = r1' - r0' + 1 by omega]
      exact L12.symm)
    rw [cm28] at x2
    have e37 : layS T2 r1' (-28) 3 7 = nI (r1' + 1) := by unfold layS; rw [up2_same]
    have eP : tP (raS S2 t 10007) = tP S2 := by unfold tP; rw [raS_off (by omega) (by omega)]
    exact ih _ _ r0' (r1' + 1) x2 z1 z2 e37 (by omega) (by rw [eP]; omega) (by rw [eP]; omega)
theorem XQ_t {D : Nat} {R : Bool × (Nat → Nat → Int32)} (hR : R.1 = true) (x : XOk D S T R.2 T1 t) : XQ D S T t R T1 := by unfold XQ; rw [if_pos hR]; exact x
theorem XQ_f {D : Nat} {R : Bool × (Nat → Nat → Int32)} (hR : R.1 = false) (x : RB R.2 T1) (e : EX T T1) : XQ D S T t R T1 := by unfold XQ; rw [if_neg (by rw [hR]; decide)]; exact ⟨x, e⟩
theorem XQ_E {D : Nat} {R : Bool × (Nat → Nat → Int32)} (q : XQ D S T t R T1) : (R.1 = true ∧ XOk D S T R.2 T1 t) ∨ (R.1 = false ∧ RB R.2 T1 ∧ EX T T1) := by
  unfold XQ at q
  cases h : R.1 with
  | true => rw [if_pos h] at q; exact Or.inl ⟨rfl, q⟩
  | false => rw [if_neg (by rw [h]; decide)] at q; exact Or.inr ⟨rfl, q⟩
theorem VX_ret {P : (Nat → Nat → Int32) → Prop} (dg : decode M.2.1 pc = .ok (.return_, 1)) (hr : M.2.2.2.1 = none) (hp : P T) : V G M d bc bs (xXm G b h0 P) pc ls [] (wH G b tbM T h0) := V_vret dg hr ⟨rfl, T, rfl, hp⟩
end P4
