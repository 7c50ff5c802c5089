/-! ===== both readers side by side: EXPRS within EXPRS ===== -/
section P8
variable {G : xG} {d : Nat} {b : Nat} {S S1 S2 S3 T T1 T2 T3 U Z : Nat → Nat → Int32} {h0 h : xH} {t w : Nat}
theorem XC.mono {M : xM} {D D' dd : Nat} {F : (Nat → Nat → Int32) → Bool × (Nat → Nat → Int32)} (h : XC G b h0 M D dd w t F) (hD : D ≤ D') : XC G b h0 M D' dd w t F := fun S T d hd p => V_post (fun r h' q => ⟨q.1, by
  obtain ⟨T', e, x⟩ := q.2
  refine ⟨T', e, ?_⟩
  rcases XQ_E x with ⟨e1, y⟩ | ⟨e1, y, ey⟩
  · exact XQ_t e1 (y.mono hD)
  · exact XQ_f e1 y ey⟩) (h S T d hd p)
theorem XC.eq {M : xM} {D dd : Nat} {F F' : (Nat → Nat → Int32) → Bool × (Nat → Nat → Int32)} (h : XC G b h0 M D dd w t F) (e : F = F') : XC G b h0 M D dd w t F' := e ▸ h
theorem part_no {X : (Nat → Nat → Int32) → Bool × (Nat → Nat → Int32)} (hst : stS S = false) : partF t X S = (false, rfs S 1) ∧ ntF 6 0 S = (0, S) := by
  unfold stS at hst
  have h1 : ¬ S 2 6 = 2 := fun q => by rw [decide_eq_true q] at hst; cases hst
  have h2 : ¬ S 2 6 = 1 := fun q => by rw [decide_eq_true q, Bool.or_true] at hst; cases hst
  have h3 : sgn S 40 = false := by
    cases hs : sgn S 40 with
    | false => rfl
    | true => rw [hs, Bool.or_true] at hst; cases hst
  have e : tkS S 40 = (false, rfs S 1) := by unfold tkS; rw [if_neg (by rw [h3]; decide)]
  refine ⟨?_, ?_⟩
  · unfold partF
    rw [if_neg h1, if_neg h2, e, if_neg (by intro z; cases z)]
  · rw [ntF, if_neg (by unfold wrd; rw [decide_eq_false h2, Bool.false_and, Bool.false_and]; decide)]
    rfl
theorem rowF_1 {P : (Nat → Nat → Int32) → Bool × (Nat → Nat → Int32)} : rowF t P 1 = rowR t 4 P 700 ∘ fun S => (0, S) := by funext S; rw [rowF, if_neg (by decide)]; rfl
theorem rowF_2 {P : (Nat → Nat → Int32) → Bool × (Nat → Nat → Int32)} : rowF t P 2 = rowR t 3 (rowF t P 1) 700 ∘ fun S => (0, S) := by funext S; rw [rowF, if_neg (by decide)]; rfl
theorem rowF_3 {P : (Nat → Nat → Int32) → Bool × (Nat → Nat → Int32)} : rowF t P 3 = fun S => rowR t 2 (rowF t P 2) 1 (ntF 6 0 S) := by funext S; rw [rowF, if_pos rfl]
theorem rowF_4 {P : (Nat → Nat → Int32) → Bool × (Nat → Nat → Int32)} : rowF t P 4 = rowR t 1 (rowF t P 3) 700 ∘ fun S => (0, S) := by funext S; rw [rowF, if_neg (by decide)]; rfl
theorem rowF_5 {P : (Nat → Nat → Int32) → Bool × (Nat → Nat → Int32)} : rowF t P 5 = rowR t 0 (rowF t P 4) 700 ∘ fun S => (0, S) := by funext S; rw [rowF, if_neg (by decide)]; rfl
theorem rowR_no {lv k : Nat} {R : (Nat → Nat → Int32) → Bool × (Nat → Nat → Int32)} (h : R S = (false, rfs S 1)) : rowR t lv R k (0, S) = (false, rfs S 1) := by
  rw [rowR_0, h, if_neg (by intro z; cases z)]
theorem row_no {X : (Nat → Nat → Int32) → Bool × (Nat → Nat → Int32)} (hst : stS S = false) : rowR t 0 (rowF t (partF t X) 4) 700 (0, S) = (false, rfs S 1) := by
  obtain ⟨h1, h2⟩ := part_no (t := t) (X := X) hst
  refine rowR_no ?_
  rw [rowF_4]
  refine rowR_no ?_
  rw [rowF_3]
  show rowR t 2 (rowF t (partF t X) 2) 1 (ntF 6 0 S) = _
  rw [h2]
  refine rowR_no ?_
  rw [rowF_2]
  refine rowR_no ?_
  rw [rowF_1]
  exact rowR_no h1
theorem X12_expr (hb : gB G ≤ b) : ∀ f, f ≤ 6 → XC G b h0 mX12_readExpression (5 * f + 1) (6 + 6 * f) (6 - f) t (exF t f) := by
  intro f
  induction f with
  | zero => intro _; exact (X12_readExpr0 hb).mono (by omega)
  | succ f ih =>
    intro hf
    have hX := ih (by omega)
    rw [show 6 - f = (6 - (f + 1)) + 1 by omega] at hX
    have h1 := X12_readPart hX (by omega) (by omega) hb
    have h2 := (X12_readProduct h1 (by omega) hb).eq rowF_1.symm
    have h3 := (X12_readSum h2 (by omega) hb).eq rowF_2.symm
    have h4 := (X12_readNot h3 (by omega) hb).eq rowF_3.symm
    have h5 := (X12_readAnd h4 (by omega) hb).eq rowF_4.symm
    have h6 := (X12_readExpr h5 (by omega) (by omega) hb (fun S hst => row_no hst)).eq rowF_5.symm
    have e : exF t (f + 1) = rowF t (partF t (exF t f)) 5 := by funext S; rw [exF]
    rw [e]
    intro S T d hd p
    exact h6.mono (D' := 5 * (f + 1) + 1) (by omega) S T d (by omega) p
end P8
