/-! ===== the class's reader: no place without a FAULT ===== -/
section T6
variable {S : Nat → Nat → Int32} {t : Nat}
/-- read, and no FAULT told; or a FAULT -/
def PcB (S : Nat → Nat → Int32) (R : Bool × (Nat → Nat → Int32)) : Prop := (R.1 = true ∧ R.2 1 3 = S 1 3) ∨ (R.1 = false ∧ ¬ R.2 1 2 = 0)
def PcI (S : Nat → Nat → Int32) (A : Int32 × (Nat → Nat → Int32)) : Prop := (¬ A.1 = -1 ∧ A.2 1 3 = S 1 3) ∨ (A.1 = -1 ∧ ¬ A.2 1 2 = 0)
theorem rfs_2 {k : Int32} : rfs S k 1 2 = k := by
  unfold rfs
  rw [up2_col (by decide), up2_same]
theorem advr_1 : adv S 1 = S 1 := adv_off (by decide)
theorem rfs_ne {k : Int32} (h : ¬ k = 0) : ¬ rfs S k 1 2 = 0 := by rw [rfs_2]; exact h
theorem adv13 : adv S 1 3 = S 1 3 := by rw [advr_1]
theorem raS_1 (ht : 4 ≤ t) {x : Int32} : raS S t x 1 = S 1 := by
  unfold raS
  split
  · rw [up2_row (by omega), up2_row (by omega)]
  · rfl
theorem PcB_t {U : Nat → Nat → Int32} (e : U 1 3 = S 1 3) : PcB S (true, U) := Or.inl ⟨rfl, e⟩
theorem PcB_f {U : Nat → Nat → Int32} (e : ¬ U 1 2 = 0) : PcB S (false, U) := Or.inr ⟨rfl, e⟩
theorem PcI_t {x : Int32} {U : Nat → Nat → Int32} (hx : ¬ x = -1) (e : U 1 3 = S 1 3) : PcI S (x, U) := Or.inl ⟨hx, e⟩
theorem PcI_f {U : Nat → Nat → Int32} (e : ¬ U 1 2 = 0) : PcI S (-1, U) := Or.inr ⟨rfl, e⟩
theorem Pc_S {c : Int32} : PcB S (tkS S c) := by
  unfold tkS
  split
  · exact PcB_t adv13
  · exact PcB_f (rfs_ne (by decide))
theorem PcB.of {S' : Nat → Nat → Int32} {R : Bool × (Nat → Nat → Int32)} (h : PcB S' R) (e : S' 1 = S 1) : PcB S R := by
  unfold PcB at *
  rw [← e]
  exact h
theorem PcI.of {S' : Nat → Nat → Int32} {R : Int32 × (Nat → Nat → Int32)} (h : PcI S' R) (e : S' 1 = S 1) : PcI S R := by
  unfold PcI at *
  rw [← e]
  exact h
theorem Pc_N {lo hi : Int32} (hlo : (-1 : Int32) < lo) : PcI S (nmW S lo hi) := by
  unfold nmW
  split
  · split
    · exact PcI_f (rfs_ne (by decide))
    · next q => exact PcI_t (fun e => q (Or.inl (by rw [e]; exact hlo))) rfl
  · exact PcI_f (rfs_ne (by decide))
theorem Pc_W {lo hi : Int32} (hlo : (-1 : Int32) < lo) : PcI S (tkW S lo hi) := by
  have h := Pc_N (S := S) (hi := hi) hlo
  unfold tkW
  by_cases c : (nmW S lo hi).1 = -1
  · rw [if_pos c]; exact h
  · rw [if_neg c]
    rcases h with ⟨h1, h2⟩ | ⟨h1, -⟩
    · exact PcI_t h1 (adv13.trans h2)
    · exact absurd h1 c
theorem Pc_th {A : Int32 × (Nat → Nat → Int32)} {lo hi : Int32} (hlo : (-1 : Int32) < lo) (h : PcI S A) : PcI S (thn A lo hi) := by
  unfold thn
  rcases h with ⟨h1, h2⟩ | ⟨h1, h2⟩
  · rw [if_neg h1]
    rcases Pc_W (S := A.2) (hi := hi) hlo with ⟨k1, k2⟩ | ⟨k1, k2⟩
    · exact Or.inl ⟨k1, k2.trans h2⟩
    · exact Or.inr ⟨k1, k2⟩
  · rw [if_pos h1]; exact PcI_f h2
theorem Pc_nt : ∀ (m k : Nat) (S : Nat → Nat → Int32), k + m < 100 → PcI S (ntF m k S) := by
  intro m
  induction m with
  | zero =>
    intro k S hk
    rw [ntF]
    split
    · exact PcI_f (rfs_ne (by decide))
    · exact PcI_t (nI_m1 (by omega)) rfl
  | succ m ih =>
    intro k S hk
    rw [ntF]
    split
    · exact (ih (k + 1) (adv S) (by omega)).of advr_1
    · exact PcI_t (nI_m1 (by omega)) rfl
theorem Pc_pp {A : Int32 × (Nat → Nat → Int32)} (ht : 4 ≤ t) (h : PcI S A) : PcB S (ppF A.2 t A.1) := by
  unfold ppF
  rcases h with ⟨h1, h2⟩ | ⟨h1, h2⟩
  · rw [if_neg h1]; exact PcB_t (adv13.trans ((congrFun (raS_1 ht) 3).trans h2))
  · rw [if_pos h1]; exact PcB_f h2
theorem Pc_part {X : (Nat → Nat → Int32) → Bool × (Nat → Nat → Int32)} (ht : 4 ≤ t) (hX : ∀ S, PcB S (X S)) : PcB S (partF t X S) := by
  unfold partF
  split
  · exact Pc_pp ht (Pc_N (by decide))
  · split
    · split
      · exact PcB_f (rfs_ne (by decide))
      · next q => exact Pc_pp (A := (vlH S, S)) ht (PcI_t q rfl)
    · rcases Pc_S (S := S) (c := 40) with ⟨a1, a2⟩ | ⟨a1, a2⟩
      · rw [if_pos a1]
        rcases hX (tkS S 40).2 with ⟨b1, b2⟩ | ⟨b1, b2⟩
        · rw [if_pos b1]
          rcases Pc_S (S := (X (tkS S 40).2).2) (c := 41) with ⟨c1, c2⟩ | ⟨c1, c2⟩
          · exact Or.inl ⟨c1, (c2.trans b2).trans a2⟩
          · exact Or.inr ⟨c1, c2⟩
        · rw [if_neg (by rw [b1]; decide)]; exact PcB_f b2
      · rw [if_neg (by rw [a1]; decide)]; exact PcB_f a2
theorem Pc_ops {R : (Nat → Nat → Int32) → Bool × (Nat → Nat → Int32)} {lv : Nat} (ht : 4 ≤ t) (hR : ∀ S, PcB S (R S)) : ∀ (m : Nat) (S : Nat → Nat → Int32), PcB S (opsF t lv R m S) := by
  intro m
  induction m with
  | zero => intro S; exact PcB_t rfl
  | succ m ih =>
    intro S
    rw [opsF]
    split
    · exact PcB_t rfl
    · rcases hR (adv S) with ⟨a1, a2⟩ | ⟨a1, a2⟩
      · rw [if_pos a1]
        rw [advr_1] at a2
        rcases ih (raS (R (adv S)).2 t (opH S lv)) with ⟨b1, b2⟩ | ⟨b1, b2⟩
        · exact Or.inl ⟨b1, by rw [b2, raS_1 ht]; exact a2⟩
        · exact Or.inr ⟨b1, b2⟩
      · rw [if_neg (by rw [a1]; decide)]; exact PcB_f a2
theorem notF_1 (ht : 4 ≤ t) : ∀ (m : Nat) (S : Nat → Nat → Int32), notF t m S 1 = S 1 := by
  intro m
  induction m with
  | zero => intro S; rfl
  | succ m ih => intro S; rw [notF, ih, raS_1 ht]
theorem Pc_rowR {R : (Nat → Nat → Int32) → Bool × (Nat → Nat → Int32)} {lv k : Nat} {n : Int32 × (Nat → Nat → Int32)} (ht : 4 ≤ t) (hR : ∀ S, PcB S (R S)) (hn : PcI S n) : PcB S (rowR t lv R k n) := by
  unfold rowR
  rcases hn with ⟨h1, h2⟩ | ⟨h1, h2⟩
  · rw [if_neg h1]
    rcases hR n.2 with ⟨a1, a2⟩ | ⟨a1, a2⟩
    · rw [if_pos a1]
      rcases Pc_ops (t := t) (lv := lv) ht hR k (R n.2).2 with ⟨b1, b2⟩ | ⟨b1, b2⟩
      · rw [if_pos b1]
        exact PcB_t ((congrFun (notF_1 ht _ _) 3).trans ((b2.trans a2).trans h2))
      · rw [if_neg (by rw [b1]; decide)]; exact PcB_f b2
    · rw [if_neg (by rw [a1]; decide)]; exact PcB_f a2
  · rw [if_pos h1]; exact PcB_f h2
theorem Pc_row {P : (Nat → Nat → Int32) → Bool × (Nat → Nat → Int32)} (ht : 4 ≤ t) (hP : ∀ S, PcB S (P S)) : ∀ (j : Nat) (S : Nat → Nat → Int32), PcB S (rowF t P j S) := by
  intro j
  induction j with
  | zero => intro S; exact hP S
  | succ j ih =>
    intro S
    rw [rowF]
    split
    · exact Pc_rowR ht ih (Pc_nt 6 0 S (by decide))
    · exact Pc_rowR ht ih (PcI_t (by decide) rfl)
theorem Pc_ex (ht : 4 ≤ t) : ∀ (f : Nat) (S : Nat → Nat → Int32), PcB S (exF t f S) := by
  intro f
  induction f with
  | zero =>
    intro S
    rw [exF]
    split
    · exact PcB_f (rfs_ne (by decide))
    · exact PcB_f (rfs_ne (by decide))
  | succ f ih => intro S; rw [exF]; exact Pc_row ht (fun S => Pc_part ht ih) 5 S
theorem Pc_fin {U : Nat → Nat → Int32} {c : Int32} (e : U 1 3 = S 1 3) : PcB S (tkS U c) := by
  rcases Pc_S (S := U) (c := c) with ⟨a1, a2⟩ | ⟨a1, a2⟩
  · exact Or.inl ⟨a1, a2.trans e⟩
  · exact Or.inr ⟨a1, a2⟩
theorem Pc_line (ht : 4 ≤ t) : PcB S (rdLine t S) := by
  have w1 : ∀ {hi : Int32}, PcI S (tkW (adv S) 0 hi) := fun {hi} => (Pc_W (by decide)).of advr_1
  unfold rdLine
  split
  · unfold rdWorth rdW2
    rcases (Pc_N (S := adv S) (lo := 0) (hi := 9) (by decide)).of advr_1 with ⟨a1, a2⟩ | ⟨a1, a2⟩
    · rw [if_neg a1]
      split
      · exact PcB_f (rfs_ne (by decide))
      · unfold rdW3
        generalize (nmW (adv S) 0 9).2 = U at a2 ⊢
        have e : (if sgn (adv U) 45 then adv (adv U) else adv U) 1 = U 1 := by
          split
          · rw [advr_1, advr_1]
          · rw [advr_1]
        rcases (Pc_W (S := if sgn (adv U) 45 then adv (adv U) else adv U) (lo := 0) (hi := 9) (by decide)).of e with ⟨b1, b2⟩ | ⟨b1, b2⟩
        · rw [if_neg b1]
          refine Pc_fin ?_
          unfold twS
          rw [up2_row (by omega), up2_row (by omega)]
          exact b2.trans a2
        · rw [if_pos b1]; exact PcB_f b2
    · rw [if_pos a1]; exact PcB_f a2
  · split
    · unfold rdPerson
      split
      · unfold rdP1 rdP2 rdP4
        have h4 := Pc_th (lo := 0) (hi := 99) (by decide) (Pc_th (lo := 0) (hi := 9) (by decide) (Pc_th (lo := 0) (hi := 9) (by decide) (w1 (hi := 1023))))
        rcases h4 with ⟨b1, b2⟩ | ⟨b1, b2⟩
        · rw [if_neg b1]
          refine Pc_fin ?_
          unfold shAdd
          simp (disch := omega) only [up2_row]
          exact b2
        · rw [if_pos b1]; exact PcB_f b2
      · exact PcB_f (rfs_ne (by decide))
    · have hI : ∀ un : Int32, PcB S (rdIf t un S) := by
        intro un
        unfold rdIf
        split
        · unfold rdI1 rdI3
          have h4 := Pc_th (lo := 0) (hi := 9) (by decide) (Pc_th (lo := 0) (hi := 1023) (by decide) (w1 (hi := 1023)))
          rcases h4 with ⟨b1, b2⟩ | ⟨b1, b2⟩
          · rw [if_neg b1]
            refine Pc_fin ?_
            unfold ifsAdd
            simp (disch := omega) only [up2_row]
            exact b2
          · rw [if_pos b1]; exact PcB_f b2
        · exact PcB_f (rfs_ne (by decide))
      split
      · exact hI 0
      · split
        · exact hI 1
        · split
          · unfold rdBridge
            split
            · unfold rdB1
              rcases (Pc_W (S := adv S) (lo := 1) (hi := 8) (by decide)).of advr_1 with ⟨b1, b2⟩ | ⟨b1, b2⟩
              · rw [if_neg b1]
                refine Pc_fin ?_
                rw [up2_row (by omega), up2_row (by omega)]
                exact b2
              · rw [if_pos b1]; exact PcB_f b2
            · exact PcB_f (rfs_ne (by decide))
          · split
            · unfold rdCrosses
              split
              · exact PcB_f (rfs_ne (by decide))
              · unfold rdC1
                rcases (Pc_ex ht 6 (adv S)).of advr_1 with ⟨b1, b2⟩ | ⟨b1, b2⟩
                · rw [if_pos b1]; exact Pc_fin b2
                · rw [if_neg (by rw [b1]; decide)]; exact PcB_f b2
            · exact PcB_f (rfs_ne (by decide))
theorem Pc_Ls (ht : 4 ≤ t) : ∀ (m : Nat) (S : Nat → Nat → Int32), (rdLs t m S).1 = 0 → (rdLs t m S).2 1 3 = S 1 3 := by
  intro m
  induction m with
  | zero => intro S _; rfl
  | succ m ih =>
    intro S
    rw [rdLs]
    split
    · intro _; rfl
    · rcases Pc_line (S := S) ht with ⟨a1, a2⟩ | ⟨a1, a2⟩
      · rw [if_pos a1]; exact fun h => (ih _ h).trans a2
      · rw [if_neg (by rw [a1]; decide)]; exact fun h => absurd h a2
/-- without a FAULT there is no place -/
theorem rdT_place {k : Nat} (ht : t = 4 ∨ t = 44) (h : (rdT S t k).1 = 0) : (rdT S t k).2 1 3 = -1 := by
  unfold rdT at *
  rw [Pc_Ls (by omega) _ _ h]
  unfold rd0
  rw [strt_off (by decide)]
  unfold shClear
  simp (disch := omega) only [up2_row, upR_row, up2_same]
end T6
