/-! ===== a line goes on ===== -/
section P14
variable {G : xG} {d : Nat} {b : Nat} {S S' S1 T T1 Z : Nat → Nat → Int32} {h0 h : xH} {t : Nat}
/-- the reader has not gone back -/
def XPm (Z S : Nat → Nat → Int32) (t : Nat) : Prop := TI S ∧ tP Z ≤ tP S ∧ (t = 4 ∨ t = 44)
theorem XPm_2 {t : Nat} (x : XPm Z S t) (h : S' 2 = S 2) : XPm Z S' t := ⟨TI_of x.1 h, by rw [show tP S' = tP S by unfold tP; rw [h]]; exact x.2.1, x.2.2⟩
theorem XPm_adv {t : Nat} (x : XPm Z S t) : XPm Z (adv S) t := by
  obtain ⟨t1, t2, t3, t4⟩ := TI_adv x.1
  refine ⟨t1, ?_, x.2.2⟩
  rw [t3]
  have := (tkP_le (B := S 3) x.1.2.2.2.2.2).1
  have := x.1.2.2.2.2.1
  have := x.2.1
  omega
theorem XPm_rfs {t : Nat} {k : Int32} (x : XPm Z S t) : XPm Z (rfs S k) t := XPm_2 x (rfs_off (by decide))
theorem XPm_raS {t : Nat} {c : Int32} (x : XPm Z S t) : XPm Z (raS S t c) t := XPm_2 x (raS_off (by have := x.2.2; omega) (by have := x.2.2; omega))
theorem XPm_nmW {t : Nat} {lo hi : Int32} (x : XPm Z S t) : XPm Z (nmW S lo hi).2 t := XPm_2 x (nmW_off (by decide))
theorem XPm_ppF {t : Nat} {c : Int32} (x : XPm Z S t) : XPm Z (ppF S t c).2 t := by
  unfold ppF
  split
  · exact x
  · exact XPm_adv (XPm_raS x)
theorem XPm_tkS {t : Nat} {c : Int32} (x : XPm Z S t) : XPm Z (tkS S c).2 t := by
  unfold tkS
  split
  · exact XPm_adv x
  · exact XPm_rfs x
theorem XPm_ntF {t : Nat} : ∀ (m k : Nat) (S : Nat → Nat → Int32), XPm Z S t → XPm Z (ntF m k S).2 t := by
  intro m
  induction m with
  | zero =>
    intro k S x
    rw [ntF]
    split
    · exact XPm_rfs x
    · exact x
  | succ m ih =>
    intro k S x
    rw [ntF]
    split
    · exact ih _ _ (XPm_adv x)
    · exact x
theorem XPm_opsF {t lv : Nat} {R : (Nat → Nat → Int32) → Bool × (Nat → Nat → Int32)} (hR : ∀ S, XPm Z S t → XPm Z (R S).2 t) : ∀ (m : Nat) (S : Nat → Nat → Int32), XPm Z S t → XPm Z (opsF t lv R m S).2 t := by
  intro m
  induction m with
  | zero => intro S x; exact x
  | succ m ih =>
    intro S x
    rw [opsF]
    split
    · exact x
    · split
      · exact ih _ (XPm_raS (hR _ (XPm_adv x)))
      · exact hR _ (XPm_adv x)
theorem XPm_notF {t : Nat} : ∀ (m : Nat) (S : Nat → Nat → Int32), XPm Z S t → XPm Z (notF t m S) t := by
  intro m
  induction m with
  | zero => intro S x; exact x
  | succ m ih => intro S x; rw [notF]; exact ih _ (XPm_raS x)
theorem XPm_rowR {t lv k : Nat} {R : (Nat → Nat → Int32) → Bool × (Nat → Nat → Int32)} {n : Int32 × (Nat → Nat → Int32)} (hR : ∀ S, XPm Z S t → XPm Z (R S).2 t) (x : XPm Z n.2 t) : XPm Z (rowR t lv R k n).2 t := by
  unfold rowR
  split
  · exact x
  · split
    · split
      · exact XPm_notF _ _ (XPm_opsF hR _ _ (hR _ x))
      · exact XPm_opsF hR _ _ (hR _ x)
    · exact hR _ x
theorem XPm_rowF {t : Nat} {P : (Nat → Nat → Int32) → Bool × (Nat → Nat → Int32)} (hP : ∀ S, XPm Z S t → XPm Z (P S).2 t) : ∀ (j : Nat) (S : Nat → Nat → Int32), XPm Z S t → XPm Z (rowF t P j S).2 t := by
  intro j
  induction j with
  | zero => intro S x; exact hP S x
  | succ j ih =>
    intro S x
    rw [rowF]
    split
    · exact XPm_rowR ih (XPm_ntF _ _ _ x)
    · exact XPm_rowR ih x
theorem XPm_partF {t : Nat} {X : (Nat → Nat → Int32) → Bool × (Nat → Nat → Int32)} (hX : ∀ S, XPm Z S t → XPm Z (X S).2 t) (S : Nat → Nat → Int32) (x : XPm Z S t) : XPm Z (partF t X S).2 t := by
  unfold partF
  split
  · exact XPm_ppF (XPm_nmW x)
  · split
    · split
      · exact XPm_rfs x
      · exact XPm_ppF x
    · split
      · split
        · exact XPm_tkS (hX _ (XPm_tkS x))
        · exact hX _ (XPm_tkS x)
      · exact XPm_tkS x
theorem XPm_exF {t : Nat} : ∀ (f : Nat) (S : Nat → Nat → Int32), XPm Z S t → XPm Z (exF t f S).2 t := by
  intro f
  induction f with
  | zero =>
    intro S x
    rw [exF]
    split
    · exact XPm_rfs x
    · exact XPm_rfs x
  | succ f ih => intro S x; rw [exF]; exact XPm_rowF (XPm_partF ih) 5 S x
theorem XPm_tkW {lo hi : Int32} (x : XPm Z S t) : XPm Z (tkW S lo hi).2 t := by
  unfold tkW
  split
  · exact XPm_nmW x
  · exact XPm_adv (XPm_nmW x)
theorem XPm_thn {lo hi : Int32} {A : Int32 × (Nat → Nat → Int32)} (x : XPm Z A.2 t) : XPm Z (thn A lo hi).2 t := by
  unfold thn
  split
  · exact x
  · exact XPm_tkW x
theorem XPm_if {lo hi : Int32} {R A : Bool × (Nat → Nat → Int32)} (e : R = if A.1 then tkS A.2 59 else (false, A.2)) (ok : R.1 = true) (x : A.1 = true → XPm Z A.2 t) : XPm Z R.2 t := by
  cases hA : A.1 with
  | true => rw [hA, if_pos rfl] at e; rw [e]; exact XPm_tkS (x hA)
  | false => rw [hA] at e; rw [e] at ok; cases ok
theorem hdI_P {un x y : Int32} {D : Int32 × (Nat → Nat → Int32)} (p : XPm Z D.2 t) : XPm Z (hdI t un x y D).2 t := by
  have ht := p.2.2
  unfold hdI
  by_cases c : D.1 = -1
  · rw [if_pos c]; exact p
  · rw [if_neg c]
    refine XPm_2 p ?_
    unfold ifsAdd
    simp (disch := omega) only [up2_row]
theorem hdP_P {x y z : Int32} {D : Int32 × (Nat → Nat → Int32)} (p : XPm Z D.2 t) : XPm Z (hdP t x y z D).2 t := by
  have ht := p.2.2
  unfold hdP
  by_cases c : D.1 = -1
  · rw [if_pos c]; exact p
  · rw [if_neg c]
    refine XPm_2 p ?_
    unfold shAdd
    simp (disch := omega) only [up2_row]
theorem hdP1_P {A : Int32 × (Nat → Nat → Int32)} (p : XPm Z A.2 t) : XPm Z (hdP1 t A).2 t := by
  unfold hdP1
  exact hdP_P (XPm_thn (XPm_thn (XPm_thn p)))
theorem hdW3_P {q : Int32} {ng : Bool} {B : Int32 × (Nat → Nat → Int32)} (p : XPm Z B.2 t) : XPm Z (hdW3 t q ng B).2 t := by
  have ht := p.2.2
  unfold hdW3
  by_cases c : B.1 = -1
  · rw [if_pos c]; exact p
  · rw [if_neg c]
    refine XPm_2 p ?_
    unfold twS
    simp (disch := omega) only [up2_row]
theorem hdW2_P {A : Int32 × (Nat → Nat → Int32)} (p : XPm Z A.2 t) : XPm Z (hdW2 t A).2 t := by
  unfold hdW2
  by_cases c : A.1 = -1
  · rw [if_pos c]; exact p
  · rw [if_neg c]
    by_cases c2 : hasB (A.2 t 8) A.1 = true
    · rw [if_pos c2]; exact XPm_rfs p
    · rw [if_neg c2]
      refine hdW3_P (XPm_tkW ?_)
      by_cases c3 : sgn (adv A.2) 45 = true
      · rw [if_pos c3]; exact XPm_adv (XPm_adv p)
      · rw [if_neg c3]; exact XPm_adv p
/-- a line that is read well goes over its word at least -/
theorem line_P (hT : TI S) (ht : t = 4 ∨ t = 44) (ok : (rdLine t S).1 = true) : tP (adv S) ≤ tP (rdLine t S).2 := by
  have x0 : XPm (adv S) (adv S) t := ⟨(TI_adv hT).1, Nat.le_refl _, ht⟩
  suffices h : XPm (adv S) (rdLine t S).2 t from h.2.1
  unfold rdLine at ok ⊢
  by_cases c1 : wrd S lWorth = true
  · rw [if_pos c1] at ok ⊢; exact XPm_if (lo := 0) (hi := 0) rdWo_hd ok (fun _ => hdW2_P (XPm_nmW x0))
  rw [if_neg c1] at ok ⊢
  by_cases c2 : wrd S lPerson = true
  · rw [if_pos c2] at ok ⊢
    refine XPm_if (lo := 0) (hi := 0) rdPe_hd ok (fun q => ?_)
    unfold hdPe at q ⊢
    by_cases c : S t 7 < 8
    · rw [if_pos c]; exact hdP1_P (XPm_tkW x0)
    · rw [if_neg c] at q; cases q
  rw [if_neg c2] at ok ⊢
  have ifc : ∀ un : Int32, (rdIf t un S).1 = true → XPm (adv S) (rdIf t un S).2 t := fun un ok => by
    refine XPm_if (lo := 0) (hi := 0) rdIf_hd ok (fun q => ?_)
    unfold hdIf at q ⊢
    by_cases c : S (t + 2) 4 < 12
    · rw [if_pos c]; exact hdI_P (XPm_thn (XPm_thn (XPm_tkW x0)))
    · rw [if_neg c] at q; cases q
  by_cases c3 : wrd S lIf = true
  · rw [if_pos c3] at ok ⊢; exact ifc 0 ok
  rw [if_neg c3] at ok ⊢
  by_cases c4 : wrd S lUnless = true
  · rw [if_pos c4] at ok ⊢; exact ifc 1 ok
  rw [if_neg c4] at ok ⊢
  by_cases c5 : wrd S lBridge = true
  · rw [if_pos c5] at ok ⊢
    unfold rdBridge at ok ⊢
    by_cases c : S t 10 = 0
    · rw [if_pos c] at ok ⊢
      unfold rdB1 at ok ⊢
      by_cases c' : (tkW (adv S) 1 8).1 = -1
      · rw [if_pos c'] at ok; cases ok
      · rw [if_neg c']
        refine XPm_tkS (XPm_2 (XPm_tkW (lo := 1) (hi := 8) x0) ?_)
        simp (disch := omega) only [up2_row]
    · rw [if_neg c] at ok; cases ok
  rw [if_neg c5] at ok ⊢
  by_cases c6 : wrd S lCrosses = true
  · rw [if_pos c6] at ok ⊢
    unfold rdCrosses at ok ⊢
    by_cases c : 0 < S (t + 6) 2
    · rw [if_pos c] at ok; cases ok
    · rw [if_neg c] at ok ⊢
      unfold rdC1 at ok ⊢
      by_cases c' : (exF t 6 (adv S)).1 = true
      · rw [if_pos c']; exact XPm_tkS (XPm_exF 6 _ x0)
      · rw [if_neg c'] at ok; cases ok
  · rw [if_neg c6] at ok; cases ok
/-- how the model's reader begins -/
theorem PMI_start {n : Nat} (h18 : T 0 18 = nI n) (h7 : n ≤ 700) (bo : BO T) : PMI (mStep T n 0) n (tkP (T 15) n 0) (tkE (T 15) n 0) := by
  have l2 := tkE_le (B := T 15) (Nat.zero_le n)
  unfold mStep
  refine ⟨?_, h7, ?_, ?_, ?_, l2.1, l2.2.1, ?_, ?_⟩
  · rw [upR_same]; unfold stR; simp (disch := omega) only [updN]; exact h18
  · rw [upR_same]; unfold stR; simp (disch := omega) only [updN, updS]
  · rw [upR_same]; unfold stR; simp (disch := omega) only [updN, updS]
  · rw [upR_same]; unfold stR; simp (disch := omega) only [updN, updS]
  · unfold BO; rw [upR_row (by decide)]; exact bo
  · rw [upR_same, upR_row (by decide)]; unfold stR; simp (disch := omega) only [updN, updS]; rfl
theorem RTk_start {n : Nat} (h7 : n ≤ 700) (h18 : T 0 18 = nI n) (bo : BO T) (hB : ∀ k, bya (S 3) n k = bya (T 15) n k) : RTk (strt S n) (mStep T n 0) := by
  obtain ⟨e1, e2⟩ := strt_TI (S := S) h7
  have t1 := strt_T (S := S) h7
  have e3 : (up2 (up2 S 2 1 (nI n)) 2 2 0) 3 = S 3 := by rw [up2_row (by decide), up2_row (by decide)]
  have l1 := tkP_le (B := S 3) (Nat.zero_le n)
  have l2 := tkE_le (B := S 3) (Nat.zero_le n)
  have f5 : strt S n 2 5 = nI (tkP (S 3) n 0) := by unfold strt; rw [adv_5, e1, e2, e3]
  have f2 : strt S n 2 2 = nI (tkE (S 3) n 0) := by unfold strt; rw [adv_2, e1, e2, e3]
  have f1 : strt S n 2 1 = nI n := by unfold strt; rw [adv_1, up2_col (by decide), up2_same]
  have gL : tL (strt S n) = n := by unfold tL; rw [f1, nI_clamp (by omega)]
  have gP : tP (strt S n) = tkP (S 3) n 0 := by unfold tP; rw [f5, nI_clamp (by omega)]
  have gE : tE (strt S n) = tkE (S 3) n 0 := by unfold tE; rw [f2, nI_clamp (by omega)]
  have c1 := tkP_congr hB 0
  have c2 := tkE_congr hB 0
  have c3 := tkK_congr hB 0
  have e19 : mStep T n 0 0 19 = tkK (T 15) n 0 := by
    unfold mStep stR
    rw [upR_same]
    simp (disch := omega) only [updN, updS]
  have e20 : mStep T n 0 0 20 = if tkK (T 15) n 0 = 2 then mnF (T 15) n (tkE (T 15) n 0 - tkP (T 15) n 0) (tkP (T 15) n 0) 0 else T 0 20 := by
    unfold mStep stR
    rw [upR_same]
    simp (disch := omega) only [updN, updS]
  have e15 : mStep T n 0 15 = T 15 := mStep_off (by decide)
  refine ⟨t1, ?_, ?_, ?_, ?_, ?_, ?_⟩
  · rw [gL, gP, gE, c1, c2]; exact PMI_start h18 h7 bo
  · rw [e19]; unfold strt; rw [adv_6, e1, e2, e3, c3]
  · rw [gL, gP, e15]; unfold strt; rw [adv_3, e1, e2, e3, hB]
  · intro k
    rw [gL, e15, strt_off (by decide)]
    exact hB k
  · rw [gL, gP, gE, c1, c2, e15, e19, e20]
    intro q1 q2
    rw [if_pos q1]
    obtain ⟨k1, w, k2, k3⟩ := num_step (Nat.zero_le n) q1 q2
    exact ⟨k1, w, k2, k3⟩
  · rw [gL, gP, gE]
    intro q
    have e : tkN (S 3) n 0 = min (tkP (S 3) n 0 + 1) n := rfl
    omega
end P14
