/-! ===== both readers side by side: bytes and TOKENS ===== -/
section P3
variable {G : xG} {d : Nat} {b : Nat} {S S1 S2 T T1 T2 U : Nat → Nat → Int32} {h0 h : xH}
theorem sk_congr {B B' : Nat → Int32} {L : Nat} (h : ∀ k, bya B L k = bya B' L k) : ∀ m p, skB B L m p = skB B' L m p := by
  intro m
  induction m with
  | zero => intro p; rfl
  | succ m ih => intro p; rw [skB, skB, h, ih]
theorem run_congr {B B' : Nat → Int32} {L : Nat} {k : Int32} (h : ∀ k, bya B L k = bya B' L k) : ∀ m p, runB B L k m p = runB B' L k m p := by
  intro m
  induction m with
  | zero => intro p; rfl
  | succ m ih => intro p; rw [runB, runB, h, ih]
theorem num_congr {B B' : Nat → Int32} {L : Nat} (h : ∀ k, bya B L k = bya B' L k) : ∀ m p x, numF B L m p x = numF B' L m p x := by
  intro m
  induction m with
  | zero => intro p x; rfl
  | succ m ih => intro p x; rw [numF, numF, h, ih]
theorem wrd_congr {B B' : Nat → Int32} {L p : Nat} {l : List Int32} (h : ∀ k, bya B L k = bya B' L k) : ∀ m k, wrdF B L p l m k = wrdF B' L p l m k := by
  intro m
  induction m with
  | zero => intro k; rfl
  | succ m ih => intro k; rw [wrdF, wrdF, h, ih]
theorem tkP_congr {B B' : Nat → Int32} {L : Nat} (h : ∀ k, bya B L k = bya B' L k) (p : Nat) : tkP B L p = tkP B' L p := sk_congr h _ _
theorem tkK_congr {B B' : Nat → Int32} {L : Nat} (h : ∀ k, bya B L k = bya B' L k) (p : Nat) : tkK B L p = tkK B' L p := by unfold tkK; rw [tkP_congr h, h]
theorem tkE_congr {B B' : Nat → Int32} {L : Nat} (h : ∀ k, bya B L k = bya B' L k) (p : Nat) : tkE B L p = tkE B' L p := by unfold tkE tkN; rw [tkP_congr h, tkK_congr h, run_congr h]
theorem dg_in {x : Int32} (h : isDg x = true) : ∃ e, e < 10 ∧ x = nI (48 + e) := by
  obtain ⟨h1, h2⟩ := dg48.mp h
  have h3 : ¬ x < 0 := fun q => by
    have a1 := Int32.lt_iff_toInt_lt.mp q
    have a2 := Int32.le_iff_toInt_le.mp h1
    rw [show (0 : Int32).toInt = 0 by decide] at a1
    rw [show (48 : Int32).toInt = 48 by decide] at a2
    omega
  obtain ⟨j, hj, e⟩ := nI_of h3
  subst e
  have b1 : 48 ≤ j := (nI_leI (by decide) hj).mp h1
  have b2 : j ≤ 57 := (nI_leI hj (by decide)).mp h2
  exact ⟨j - 48, by omega, by rw [show 48 + (j - 48) = j by omega]⟩
theorem mnF_num {B : Nat → Int32} {L : Nat} : ∀ (m i v c : Nat), (∀ j, i ≤ j → j < i + m → isDg (bya B L j) = true) → v < 10 ^ c → c + m ≤ 4 → mnF B L m i (nI v) = numF B L m i (nI v) ∧ ∃ w, w < 10 ^ (c + m) ∧ numF B L m i (nI v) = nI w := by
  intro m
  induction m with
  | zero => intro i v c _ hv _; exact ⟨rfl, v, hv, rfl⟩
  | succ m ih =>
    intro i v c hd hv hc
    rw [mnF, numF]
    obtain ⟨e, he, ee⟩ := dg_in (hd i (by omega) (by omega))
    have h4 : 10 ^ (c + 1) ≤ 10 ^ 4 := Nat.pow_le_pow_right (by decide) (by omega)
    have hw : 10 * v + e < 10 ^ (c + 1) := by rw [Nat.pow_succ]; omega
    have y1 : (10 : Int32) * nI v + bya B L i - 48 = nI (10 * v + e) := by
      rw [ee, show (10 : Int32) * nI v = nI (10 * v) from pk_mul 10 v, nI_add, show nI (10 * v + (48 + e)) - 48 = nI (10 * v + (48 + e) - 48) from pk_sub (b := 48) (by omega)]
      congr 1
      omega
    have y2 : nI v * 10 + bya B L i - 48 = nI (10 * v + e) := by
      rw [ee, show nI v * (10 : Int32) = nI (v * 10) from pk_mul v 10, nI_add, show nI (v * 10 + (48 + e)) - 48 = nI (v * 10 + (48 + e) - 48) from pk_sub (b := 48) (by omega)]
      congr 1
      omega
    rw [y1, y2, show mnI 100000 (nI (10 * v + e)) = nI (10 * v + e) from if_pos (nI_lt (b := 100000) (by omega) (by decide))]
    obtain ⟨k1, w, k2, k3⟩ := ih (i + 1) (10 * v + e) (c + 1) (fun j h1 h2 => hd j (by omega) (by omega)) hw (by omega)
    exact ⟨k1, w, by rw [show c + (m + 1) = c + 1 + m by omega]; exact k2, k3⟩
/-- both readers stand at the same TOKEN -/
def RTk (S T : Nat → Nat → Int32) : Prop := TI S ∧ PMI T (tL S) (tP S) (tE S) ∧ S 2 6 = T 0 19 ∧ S 2 3 = bya (T 15) (tL S) (tP S) ∧ (∀ k, bya (S 3) (tL S) k = bya (T 15) (tL S) k) ∧ (T 0 19 = 2 → tE S - tP S ≤ 4 → T 0 20 = numF (T 15) (tL S) (tE S - tP S) (tP S) 0 ∧ ∃ w, w < 10000 ∧ T 0 20 = nI w) ∧ (tP S < tL S → tP S < tE S)
/-- a step of the model beside a step of the class -/
def mAd (S T : Nat → Nat → Int32) : Nat → Nat → Int32 := mStep T (tL S) (tE S)
theorem num_step {B : Nat → Int32} {L p : Nat} (hp : p ≤ L) (hk : tkK B L p = 2) (h4 : tkE B L p - tkP B L p ≤ 4) : mnF B L (tkE B L p - tkP B L p) (tkP B L p) 0 = numF B L (tkE B L p - tkP B L p) (tkP B L p) 0 ∧ ∃ w, w < 10000 ∧ mnF B L (tkE B L p - tkP B L p) (tkP B L p) 0 = nI w := by
  obtain ⟨h1, h2⟩ := tkE_1 hp (Or.inr hk)
  have h3 := tkP_le (B := B) hp
  have le := tkE_le (B := B) hp
  rw [hk] at h2
  obtain ⟨k1, w, k2, k3⟩ := mnF_num (B := B) (L := L) (tkE B L p - tkP B L p) (tkP B L p) 0 0 (fun j a1 a2 => by
    have := runB_in (B := B) (L := L) (k := 2) (by decide) (L - tkP B L p) (tkP B L p) (by omega) j a1 (by rw [h2]; omega)
    exact knd_2.mp this) (by decide) (by omega)
  have h10 : 10 ^ (0 + (tkE B L p - tkP B L p)) ≤ 10 ^ 4 := Nat.pow_le_pow_right (by decide) (by omega)
  exact ⟨k1, w, by omega, k1.trans k3⟩
theorem RTk_adv (h : RTk S T) : RTk (adv S) (mAd S T) := by
  obtain ⟨a1, a2, a3, a4, a5, a6⟩ := h
  obtain ⟨t1, t2, t3, t4⟩ := TI_adv a1
  have eE : tE S ≤ tL S := a1.2.2.2.2.2
  have p := PMI_step a2
  have c1 := tkP_congr a5 (tE S)
  have c2 := tkE_congr a5 (tE S)
  have c3 := tkK_congr a5 (tE S)
  unfold mAd
  refine ⟨t1, ?_, ?_, ?_, ?_, ?_, ?_⟩
  · rw [t2, t3, t4, c1, c2]; exact p
  · rw [adv_6, c3]
    unfold mStep stR
    rw [upR_same]
    simp (disch := omega) only [updN, updS]
  · rw [adv_3, t2, t3, a5, mStep_off (by decide)]
  · intro k
    rw [t2, adv_off (by decide), mStep_off (by decide)]
    exact a5 k
  · rw [t2, t3, t4, c1, c2, show mStep T (tL S) (tE S) 15 = T 15 from mStep_off (by decide)]
    have e19 : mStep T (tL S) (tE S) 0 19 = tkK (T 15) (tL S) (tE S) := by
      unfold mStep stR
      rw [upR_same]
      simp (disch := omega) only [updN, updS]
    have e20 : mStep T (tL S) (tE S) 0 20 = if tkK (T 15) (tL S) (tE S) = 2 then mnF (T 15) (tL S) (tkE (T 15) (tL S) (tE S) - tkP (T 15) (tL S) (tE S)) (tkP (T 15) (tL S) (tE S)) 0 else T 0 20 := by
      unfold mStep stR
      rw [upR_same]
      simp (disch := omega) only [updN, updS]
    rw [e19, e20]
    intro q1 q2
    rw [if_pos q1]
    obtain ⟨k1, w, k2, k3⟩ := num_step eE q1 q2
    exact ⟨k1, w, k2, k3⟩
  · rw [t2, t3, t4]
    intro q
    have l := tkE_le (B := S 3) eE
    have e : tkN (S 3) (tL S) (tE S) = min (tkP (S 3) (tL S) (tE S) + 1) (tL S) := rfl
    omega
theorem RTk_sgn {c : Int32} (h : RTk S T) : sgn S c = mMk T (tP S) c := by
  obtain ⟨a1, a2, a3, a4, a5, a6⟩ := h
  unfold sgn mMk
  rw [a3]
  by_cases q : T 0 19 = 3
  · have hP := kind_lt a2 (by rw [q]; decide)
    rw [a4, bya_M hP (a2.2.2.2.2.2.2.2.1 _ (by have := a2.2.1; omega))]
  · rw [decide_eq_false q]; rfl
theorem RTk_wrd {l : List Int32} (h : RTk S T) : wrd S l = mWrd T (tL S) (tP S) (tE S) l := by
  obtain ⟨a1, a2, a3, a4, a5, a6⟩ := h
  unfold wrd mWrd
  rw [a3, wrd_congr a5]
theorem RTk_num {l : Nat} {hi : Int32} (h : RTk S T) (hl : l < 2 ^ 31) : (∃ w, w < 10000 ∧ (nmW S (nI l) hi).1 = nI w ∧ ¬ nI w < nI l ∧ ¬ hi < nI w ∧ (nmW S (nI l) hi).2 = S ∧ mNum T (tP S) (tE S) (nI l) hi = (nI w, T) ∧ mRd T (tL S) (tP S) (tE S) (nI l) hi = (nI w, mAd S T)) ∨ ∃ k, (k = 1 ∨ k = 2) ∧ (nmW S (nI l) hi).1 = -1 ∧ (nmW S (nI l) hi).2 = rfs S k ∧ mNum T (tP S) (tE S) (nI l) hi = (0, wrg T k) ∧ mRd T (tL S) (tP S) (tE S) (nI l) hi = (0, wrg T k) := by
  obtain ⟨a1, a2, a3, a4, a5, a6⟩ := h
  by_cases q : T 0 19 = 2
  · have q' : S 2 6 = 2 := a3.trans q
    by_cases q4 : tE S - tP S ≤ 4
    · obtain ⟨k1, w, k2, k3⟩ := a6.1 q q4
      have n1 : numH S = nI w := by unfold numH; rw [if_pos ⟨q', q4⟩, num_congr a5, ← k1, k3]
      by_cases q5 : nI w < nI l ∨ hi < nI w
      · refine Or.inr ⟨2, Or.inr rfl, ?_, ?_, ?_, ?_⟩
        · unfold nmW; rw [if_pos q', n1, if_pos q5]
        · unfold nmW; rw [if_pos q', n1, if_pos q5]
        · unfold mNum; rw [if_pos q, k3, if_pos (Or.inr q5)]
        · unfold mRd; rw [if_pos q, k3, if_pos (Or.inr q5)]
      · refine Or.inl ⟨w, k2, ?_, fun z => q5 (Or.inl z), fun z => q5 (Or.inr z), ?_, ?_, ?_⟩
        · unfold nmW; rw [if_pos q', n1, if_neg q5]
        · unfold nmW; rw [if_pos q', n1, if_neg q5]
        · unfold mNum; rw [if_pos q, k3, if_neg (fun z => z.elim (by omega) q5)]
        · unfold mRd; rw [if_pos q, k3, if_neg (fun z => z.elim (by omega) q5)]; rfl
    · have n1 : numH S = -1 := by unfold numH; rw [if_neg (fun z => q4 z.2)]
      have n2 : (-1 : Int32) < nI l := Int32.lt_of_lt_of_le (b := 0) (by decide) (nI_pos' hl)
      refine Or.inr ⟨2, Or.inr rfl, ?_, ?_, ?_, ?_⟩
      · unfold nmW; rw [if_pos q', n1, if_pos (Or.inl n2)]
      · unfold nmW; rw [if_pos q', n1, if_pos (Or.inl n2)]
      · unfold mNum; rw [if_pos q, if_pos (Or.inl (by omega))]
      · unfold mRd; rw [if_pos q, if_pos (Or.inl (by omega))]
  · have q' : ¬ S 2 6 = 2 := fun z => q (a3.symm.trans z)
    refine Or.inr ⟨1, Or.inl rfl, ?_, ?_, ?_, ?_⟩
    · unfold nmW; rw [if_neg q']
    · unfold nmW; rw [if_neg q']
    · unfold mNum; rw [if_neg q]
    · unfold mRd; rw [if_neg q]
/-- both have found the same FAULT -/
def RB (S T : Nat → Nat → Int32) : Prop := ¬ T 0 23 = 0 ∧ T 0 23 = S 1 2 ∧ T 0 24 = S 1 3
theorem RB_wrg {k : Int32} (h : RTk S T) (hk : ¬ k = 0) : RB (rfs S k) (wrg T k) := by
  obtain ⟨a1, a2, -⟩ := h
  refine ⟨wrg_23 hk, ?_, ?_⟩
  · unfold wrg rfs
    rw [up2_col (by decide), up2_same, up2_col (by decide), up2_same]
  · unfold wrg rfs
    rw [up2_same, up2_same, a1.2.2.1, a2.2.2.2.1]
theorem RTk_of (h : RTk S T) (h2 : S1 2 = S 2) (h3 : S1 3 = S 3) (k0 : ∀ j, 17 ≤ j → j ≤ 22 → T1 0 j = T 0 j) (k15 : T1 15 = T 15) : RTk S1 T1 := by
  obtain ⟨a1, a2, a3, a4, a5, a6⟩ := h
  have eL : tL S1 = tL S := by unfold tL; rw [h2]
  have eP : tP S1 = tP S := by unfold tP; rw [h2]
  have eE : tE S1 = tE S := by unfold tE; rw [h2]
  refine ⟨TI_of a1 h2, ?_, ?_, ?_, ?_, ?_, by rw [eL, eP, eE]; exact a6.2⟩
  · rw [eL, eP, eE]
    obtain ⟨b1, b2, b3, b4, b5, b6, b7, b8, b9⟩ := a2
    exact ⟨by rw [k0 18 (by decide) (by decide)]; exact b1, b2, by rw [k0 17 (by decide) (by decide)]; exact b3, by rw [k0 21 (by decide) (by decide)]; exact b4, by rw [k0 22 (by decide) (by decide)]; exact b5, b6, b7, by unfold BO; rw [k15]; exact b8, by rw [k0 19 (by decide) (by decide), k15]; exact b9⟩
  · rw [h2, k0 19 (by decide) (by decide)]; exact a3
  · rw [h2, eL, eP, k15]; exact a4
  · intro k; rw [h3, eL, k15]; exact a5 k
  · rw [eL, eP, eE, k15, k0 19 (by decide) (by decide), k0 20 (by decide) (by decide)]; exact a6.1
/-- the class's signs by the model's -/
def cmS (x : Int32) : Int32 := if x < 0 then -10 else if x ≤ 9999 then x else if x ≤ 10006 then -1 - (x - 10000) else if x = 10007 then -28 else if x = 10008 then -27 else if x = 10009 then -26 else if x = 10010 then -24 else if x = 10011 then -25 else if x = 10012 then -20 else if x = 10013 then -21 else if x = 10014 then -22 else -23
/-- how many there are on the stack behind m signs from i on -/
def dpF (cd : Nat → Int32) : Nat → Nat → Nat → Option Nat
  | 0, _, n => some n
  | m + 1, i, n => if cd i ≤ -20 then (if cd i = -28 then (if 1 ≤ n then dpF cd m (i + 1) n else none) else (if 2 ≤ n then dpF cd m (i + 1) (n - 1) else none)) else if -7 ≤ cd i ∧ n < 64 then dpF cd m (i + 1) (n + 1) else none
theorem dpF_wf {cd : Nat → Int32} : ∀ (m i n : Nat), dpF cd m i n = some 1 → wfC cd m i n := by
  intro m
  induction m with
  | zero => intro i n h; rw [dpF] at h; cases h; rfl
  | succ m ih =>
    intro i n h
    rw [dpF] at h
    rw [wfC]
    split
    · next c => 
      rw [if_pos c] at h
      split
      · next c2 =>
        rw [if_pos c2] at h
        split at h
        · next c3 => exact ⟨c3, ih _ _ h⟩
        · cases h
      · next c2 =>
        rw [if_neg c2] at h
        split at h
        · next c3 => exact ⟨c3, ih _ _ h⟩
        · cases h
    · next c =>
      rw [if_neg c] at h
      split at h
      · next c3 => exact ⟨c3.1, c3.2, ih _ _ h⟩
      · cases h
theorem dpF_congr {cd cd' : Nat → Int32} : ∀ (m i n : Nat), (∀ j, i ≤ j → j < i + m → cd j = cd' j) → dpF cd m i n = dpF cd' m i n := by
  intro m
  induction m with
  | zero => intro i n _; rfl
  | succ m ih =>
    intro i n h
    rw [dpF, dpF, h i (by omega) (by omega), ih (i + 1) n (fun j a c => h j (by omega) (by omega)), ih (i + 1) (n - 1) (fun j a c => h j (by omega) (by omega)), ih (i + 1) (n + 1) (fun j a c => h j (by omega) (by omega))]
theorem dpF_app {cd : Nat → Int32} {x y : Nat} : ∀ (m i n : Nat), dpF cd m i n = some x → dpF cd y (i + m) x = dpF cd (m + y) i n := by
  intro m
  induction m with
  | zero => intro i n h; rw [dpF] at h; cases h; rw [Nat.add_zero, Nat.zero_add]
  | succ m ih =>
    intro i n h
    rw [dpF] at h
    rw [show m + 1 + y = m + y + 1 by omega, dpF, show i + (m + 1) = i + 1 + m by omega]
    split
    · next c =>
      rw [if_pos c] at h
      split
      · next c2 =>
        rw [if_pos c2] at h
        split
        · next c3 => rw [if_pos c3] at h; exact ih _ _ h
        · next c3 => rw [if_neg c3] at h; cases h
      · next c2 =>
        rw [if_neg c2] at h
        split
        · next c3 => rw [if_pos c3] at h; exact ih _ _ h
        · next c3 => rw [if_neg c3] at h; cases h
    · next c =>
      rw [if_neg c] at h
      split
      · next c3 => rw [if_pos c3] at h; exact ih _ _ h
      · next c3 => rw [if_neg c3] at h; cases h
end P3
