/-! ===== the IFS of the class: allFrom, ledFrom, stepsTo, shortestRing, endsOf ===== -/
/-- what comes of t, m times at most: F tells the first that brings something -/
def allF (F : Int32 → Int32) (gv : Nat → Int32) : Nat → Int32 → Int32
  | 0, t => t
  | m + 1, t => if F t = -1 then t else allF F gv m (t ||| 1 <<< (gv (F t).toNatClampNeg &&& 31))
theorem fst1_lt {P : Nat → Bool} : ∀ (m i : Nat), fst1 P m i = -1 ∨ ∃ j, i ≤ j ∧ j < i + m ∧ fst1 P m i = nI j ∧ P j = true := by
  intro m
  induction m with
  | zero => intro i; exact Or.inl rfl
  | succ m ih =>
    intro i
    rw [fst1]
    by_cases h : P i = true
    · exact Or.inr ⟨i, Nat.le_refl _, by omega, by rw [if_pos h], h⟩
    · rw [if_neg h]
      rcases ih (i + 1) with h1 | ⟨j, h1, h2, h3, h4⟩
      · exact Or.inl h1
      · exact Or.inr ⟨j, by omega, by omega, h3, h4⟩
section Ifs2
variable {G : xG} {d bc bs : Nat} {b : Nat} {tb : xTb} {S : Nat → Nat → Int32} {h0 h : xH}
/-- the class's first IF that brings something, by its cells -/
def cF (S : Nat → Nat → Int32) (ki n : Nat) (dn t : Int32) : Int32 := fst1 (brg (S (ki + 1)) (S (ki + 2)) (S (ki + 3)) (S ki 3) dn t) n 0
theorem X1_allFrom {ki n : Nat} (hi : IfsAt tb ki) (hn : S ki 4 = nI n) (h12 : n ≤ 12) (hd : 2 ≤ d) (t dn : Int32) :
    VM G mX1_allFrom d 0 0 [.ref (b + ki), .int t, .int dn] (xE (some (.int (allF (cF S ki n dn) (S (ki + 3)) 10 t))) (wH G b tb S h0)) (wH G b tb S h0) := by
  obtain ⟨k0, k1, k2, k3⟩ := id hi
  refine VM_start (ls := [some (.ref (b + ki)), some (.int t), some (.int dn), none, none, none]) rfl ?_
  -- %m X1_allFrom
  refine V_iload_n (pc := 0) (i := 1) dX1_allFrom_0 rfl rfl ?_
  refine V_istore_n (pc := 1) (i := 3) dX1_allFrom_1 rfl (by decide) rfl ?_
  refine V_iconst (pc := 2) (v := 0) dX1_allFrom_2 (by decide) ?_
  refine V_istore (pc := 3) dX1_allFrom_3 (by decide) rfl ?_
  have loop : ∀ (m i : Nat) (x : Int32), m + i = 10 → V G mX1_allFrom d 0 0 (xE (some (.int (allF (cF S ki n dn) (S (ki + 3)) m x))) (wH G b tb S h0)) 5 [some (.ref (b + ki)), some (.int t), some (.int dn), some (.int x), some (.int (nI i)), none] [] (wH G b tb S h0) := by
    intro m
    induction m with
    | zero =>
      intro i x hm
      refine V_iload (pc := 5) dX1_allFrom_5 rfl ?_
      refine V_bipush (pc := 7) (v := 10) dX1_allFrom_7 (by decide) ?_
      refine V_icmp_ge (pc := 9) 48 dX1_allFrom_9 rfl (fun c9 => ?_) (fun c9 => ?_)
      · refine V_iload_n (pc := 48) (i := 3) dX1_allFrom_48 rfl rfl ?_
        exact VE_iret (pc := 49) dX1_allFrom_49 rfl rfl rfl
      · exact absurd (by rw [show i = 10 by omega]; decide) c9
    | succ m ih =>
      intro i x hm
      refine V_iload (pc := 5) dX1_allFrom_5 rfl ?_
      refine V_bipush (pc := 7) (v := 10) dX1_allFrom_7 (by decide) ?_
      refine V_icmp_ge (pc := 9) 48 dX1_allFrom_9 rfl (fun c9 => ?_) (fun c9 => ?_)
      · exact absurd c9 (nI_ge (b := 10) (by omega) (by decide))
      · refine V_aload_n (pc := 12) (i := 0) dX1_allFrom_12 rfl rfl ?_
        refine V_iload_n (pc := 13) (i := 3) dX1_allFrom_13 rfl rfl ?_
        refine V_iload_n (pc := 14) (i := 2) dX1_allFrom_14 rfl rfl ?_
        refine V_iconst (pc := 15) (v := 0) dX1_allFrom_15 (by decide) ?_
        refine V_V3i (pc := 16) dX1_allFrom_16 cX1_32 (by first | assumption | rfl) (X1_firstBringing (i0 := 0) (d := 1) hi hn h12 (Nat.zero_le _) (by omega) _ _) (Nat.le_of_ble_eq_true rfl) (by omega) (Nat.le_of_ble_eq_true rfl) ?_
        have hF : cF S ki n dn x = fst1 (brg (S (ki + 1)) (S (ki + 2)) (S (ki + 3)) (S ki 3) dn x) (n - 0) 0 := rfl
        rw [← hF]
        refine V_istore (pc := 19) dX1_allFrom_19 (by decide) rfl ?_
        refine V_iload (pc := 21) dX1_allFrom_21 rfl ?_
        refine V_iconst (pc := 23) (v := -1) dX1_allFrom_23 (by decide) ?_
        refine V_icmp_ne (pc := 24) 30 dX1_allFrom_24 rfl (fun c24 => ?_) (fun c24 => ?_)
        · rcases fst1_lt (P := brg (S (ki + 1)) (S (ki + 2)) (S (ki + 3)) (S ki 3) dn x) n 0 with h1 | ⟨j, -, h2, h3, -⟩
          · exact absurd h1 c24
          have h3 : cF S ki n dn x = nI j := h3
          rw [allF, if_neg c24, h3, nI_clamp (by omega)]
          rw [h3] at c24
          refine V_iload_n (pc := 30) (i := 3) dX1_allFrom_30 rfl rfl ?_
          refine V_iconst (pc := 31) (v := 1) dX1_allFrom_31 (by decide) ?_
          refine V_aload_n (pc := 32) (i := 0) dX1_allFrom_32 rfl rfl ?_
          refine VW_getR (pc := 33) dX1_allFrom_33 fX1_18 (by first | assumption | rfl) rfl ?_
          refine V_iload (pc := 36) dX1_allFrom_36 rfl ?_
          refine VW_ialdN (pc := 38) dX1_allFrom_38 (by first | assumption | rfl) rfl (by omega) (by first | decide | omega) ?_
          refine V_ishl (pc := 39) dX1_allFrom_39 ?_
          refine V_ior (pc := 40) dX1_allFrom_40 ?_
          refine V_istore_n (pc := 41) (i := 3) dX1_allFrom_41 rfl (by decide) rfl ?_
          refine V_iinc (pc := 42) dX1_allFrom_42 (by decide) rfl rfl (iincN (n := 1) (by decide)) ?_
          refine V_goto (pc := 45) 5 dX1_allFrom_45 rfl ?_
          exact V_forget 5 (ih (i + 1) _ (by omega))
        · refine V_goto (pc := 27) 48 dX1_allFrom_27 rfl ?_
          refine V_iload_n (pc := 48) (i := 3) dX1_allFrom_48 rfl rfl ?_
          exact VE_iret (pc := 49) dX1_allFrom_49 rfl (by rw [allF, if_pos c24]) rfl
  exact loop 10 0 t rfl
/-- the THINGS to which some lead by one IF: of m IFS from i on -/
def ledF (nd gv : Nat → Int32) (dn t : Int32) : Nat → Nat → Int32 → Int32
  | 0, _, x => x
  | m + 1, i, x => ledF nd gv dn t m (i + 1) (if hasB dn (nI i) = false ∧ ¬ nd i &&& t = 0 then x ||| 1 <<< (gv i &&& 31) else x)
theorem X1_ledFrom {ki n : Nat} (hi : IfsAt tb ki) (hn : S ki 4 = nI n) (h12 : n ≤ 12) (hd : 1 ≤ d) (t dn : Int32) :
    VM G mX1_ledFrom d 0 0 [.ref (b + ki), .int t, .int dn] (xE (some (.int (ledF (S (ki + 1)) (S (ki + 3)) dn t n 0 0))) (wH G b tb S h0)) (wH G b tb S h0) := by
  obtain ⟨k0, k1, k2, k3⟩ := id hi
  refine VM_start (ls := [some (.ref (b + ki)), some (.int t), some (.int dn), none, none]) rfl ?_
  -- %m X1_ledFrom
  refine V_iconst (pc := 0) (v := 0) dX1_ledFrom_0 (by decide) ?_
  refine V_istore_n (pc := 1) (i := 3) dX1_ledFrom_1 rfl (by decide) rfl ?_
  refine V_iconst (pc := 2) (v := 0) dX1_ledFrom_2 (by decide) ?_
  refine V_istore (pc := 3) dX1_ledFrom_3 (by decide) rfl ?_
  have loop : ∀ (m i : Nat) (x : Int32), m + i = n → V G mX1_ledFrom d 0 0 (xE (some (.int (ledF (S (ki + 1)) (S (ki + 3)) dn t m i x))) (wH G b tb S h0)) 5 [some (.ref (b + ki)), some (.int t), some (.int dn), some (.int x), some (.int (nI i))] [] (wH G b tb S h0) := by
    intro m
    induction m with
    | zero =>
      intro i x hm
      refine V_iload (pc := 5) dX1_ledFrom_5 rfl ?_
      refine V_aload_n (pc := 7) (i := 0) dX1_ledFrom_7 rfl rfl ?_
      refine VW_getI (pc := 8) dX1_ledFrom_8 fX1_25 (by first | assumption | rfl) rfl ?_
      refine V_icmp_ge (pc := 11) 53 dX1_ledFrom_11 rfl (fun c11 => ?_) (fun c11 => ?_)
      · refine V_iload_n (pc := 53) (i := 3) dX1_ledFrom_53 rfl rfl ?_
        exact VE_iret (pc := 54) dX1_ledFrom_54 rfl rfl rfl
      · exact absurd (by rw [hn, show i = n by omega]; exact nI_le (by omega) (by omega)) c11
    | succ m ih =>
      intro i x hm
      rw [ledF]
      refine V_iload (pc := 5) dX1_ledFrom_5 rfl ?_
      refine V_aload_n (pc := 7) (i := 0) dX1_ledFrom_7 rfl rfl ?_
      refine VW_getI (pc := 8) dX1_ledFrom_8 fX1_25 (by first | assumption | rfl) rfl ?_
      refine V_icmp_ge (pc := 11) 53 dX1_ledFrom_11 rfl (fun c11 => ?_) (fun c11 => ?_)
      · exact absurd c11 (by rw [hn]; exact nI_ge (by omega) (by omega))
      · refine V_iload (pc := 14) dX1_ledFrom_14 rfl ?_
        refine V_iload_n (pc := 16) (i := 2) dX1_ledFrom_16 rfl rfl ?_
        refine V_SN2i (pc := 17) dX1_ledFrom_17 cX1_28 (X11_isIn (d := 0) _ _) (Nat.le_of_ble_eq_true rfl) (by omega) (Nat.le_of_ble_eq_true rfl) ?_
        refine V_if_ne (pc := 20) 47 dX1_ledFrom_20 rfl (fun c20 => ?_) (fun c20 => ?_)
        · rw [if_neg (fun q => by rw [b2i_n0.mp c20] at q; exact absurd q.1 (by decide))]
          refine V_iinc (pc := 47) dX1_ledFrom_47 (by decide) rfl rfl (iincN (n := 1) (by decide)) ?_
          refine V_goto (pc := 50) 5 dX1_ledFrom_50 rfl ?_
          exact ih (i + 1) _ (by omega)
        · refine V_aload_n (pc := 23) (i := 0) dX1_ledFrom_23 rfl rfl ?_
          refine VW_getR (pc := 24) dX1_ledFrom_24 fX1_9 (by first | assumption | rfl) rfl ?_
          refine V_iload (pc := 27) dX1_ledFrom_27 rfl ?_
          refine VW_ialdN (pc := 29) dX1_ledFrom_29 (by first | assumption | rfl) rfl (by omega) (by first | decide | omega) ?_
          refine V_iload_n (pc := 30) (i := 1) dX1_ledFrom_30 rfl rfl ?_
          refine V_iand (pc := 31) dX1_ledFrom_31 ?_
          refine V_if_eq (pc := 32) 47 dX1_ledFrom_32 rfl (fun c32 => ?_) (fun c32 => ?_)
          · rw [if_neg (fun q => q.2 c32)]
            refine V_iinc (pc := 47) dX1_ledFrom_47 (by decide) rfl rfl (iincN (n := 1) (by decide)) ?_
            refine V_goto (pc := 50) 5 dX1_ledFrom_50 rfl ?_
            exact ih (i + 1) _ (by omega)
          · rw [if_pos ⟨b2i_0.mp c20, c32⟩]
            refine V_iload_n (pc := 35) (i := 3) dX1_ledFrom_35 rfl rfl ?_
            refine V_iconst (pc := 36) (v := 1) dX1_ledFrom_36 (by decide) ?_
            refine V_aload_n (pc := 37) (i := 0) dX1_ledFrom_37 rfl rfl ?_
            refine VW_getR (pc := 38) dX1_ledFrom_38 fX1_18 (by first | assumption | rfl) rfl ?_
            refine V_iload (pc := 41) dX1_ledFrom_41 rfl ?_
            refine VW_ialdN (pc := 43) dX1_ledFrom_43 (by first | assumption | rfl) rfl (by omega) (by first | decide | omega) ?_
            refine V_ishl (pc := 44) dX1_ledFrom_44 ?_
            refine V_ior (pc := 45) dX1_ledFrom_45 ?_
            refine V_istore_n (pc := 46) (i := 3) dX1_ledFrom_46 rfl (by decide) rfl ?_
            refine V_iinc (pc := 47) dX1_ledFrom_47 (by decide) rfl rfl (iincN (n := 1) (by decide)) ?_
            refine V_goto (pc := 50) 5 dX1_ledFrom_50 rfl ?_
            exact ih (i + 1) _ (by omega)
  exact loop n 0 0 rfl
/-- by how few steps: from step s on, m of them -/
def stepF (F : Int32 → Int32) (o : Int32) : Nat → Nat → Int32 → Int32
  | 0, _, _ => -1
  | m + 1, s, x => if hasB (F x) o then nI s else stepF F o m (s + 1) (F x)
theorem X1_stepsTo {ki n : Nat} (hi : IfsAt tb ki) (hn : S ki 4 = nI n) (h12 : n ≤ 12) (hd : 2 ≤ d) (t o dn : Int32) :
    VM G mX1_stepsTo d 0 0 [.ref (b + ki), .int t, .int o, .int dn] (xE (some (.int (stepF (fun x => ledF (S (ki + 1)) (S (ki + 3)) dn x n 0 0) o 10 1 (1 <<< (t &&& 31))))) (wH G b tb S h0)) (wH G b tb S h0) := by
  obtain ⟨k0, k1, k2, k3⟩ := id hi
  refine VM_start (ls := [some (.ref (b + ki)), some (.int t), some (.int o), some (.int dn), none, none]) rfl ?_
  -- %m X1_stepsTo
  refine V_iconst (pc := 0) (v := 1) dX1_stepsTo_0 (by decide) ?_
  refine V_iload_n (pc := 1) (i := 1) dX1_stepsTo_1 rfl rfl ?_
  refine V_ishl (pc := 2) dX1_stepsTo_2 ?_
  refine V_istore (pc := 3) dX1_stepsTo_3 (by decide) rfl ?_
  refine V_iconst (pc := 5) (v := 1) dX1_stepsTo_5 (by decide) ?_
  refine V_istore (pc := 6) dX1_stepsTo_6 (by decide) rfl ?_
  have loop : ∀ (m s : Nat) (x : Int32), m + s = 11 → V G mX1_stepsTo d 0 0 (xE (some (.int (stepF (fun x => ledF (S (ki + 1)) (S (ki + 3)) dn x n 0 0) o m s x))) (wH G b tb S h0)) 8 [some (.ref (b + ki)), some (.int t), some (.int o), some (.int dn), some (.int x), some (.int (nI s))] [] (wH G b tb S h0) := by
    intro m
    induction m with
    | zero =>
      intro s x hm
      refine V_iload (pc := 8) dX1_stepsTo_8 rfl ?_
      refine V_bipush (pc := 10) (v := 10) dX1_stepsTo_10 (by decide) ?_
      refine V_icmp_gt (pc := 12) 42 dX1_stepsTo_12 rfl (fun c12 => ?_) (fun c12 => ?_)
      · refine V_iconst (pc := 42) (v := -1) dX1_stepsTo_42 (by decide) ?_
        exact VE_iret (pc := 43) dX1_stepsTo_43 rfl rfl rfl
      · exact absurd (by rw [show s = 11 by omega]; decide) c12
    | succ m ih =>
      intro s x hm
      refine V_iload (pc := 8) dX1_stepsTo_8 rfl ?_
      refine V_bipush (pc := 10) (v := 10) dX1_stepsTo_10 (by decide) ?_
      refine V_icmp_gt (pc := 12) 42 dX1_stepsTo_12 rfl (fun c12 => ?_) (fun c12 => ?_)
      · exact absurd c12 (nI_nlt (a := 10) (by omega) (by omega))
      · refine V_aload_n (pc := 15) (i := 0) dX1_stepsTo_15 rfl rfl ?_
        refine V_iload (pc := 16) dX1_stepsTo_16 rfl ?_
        refine V_iload_n (pc := 18) (i := 3) dX1_stepsTo_18 rfl rfl ?_
        refine V_V2i (pc := 19) dX1_stepsTo_19 cX1_36 (by first | assumption | rfl) (X1_ledFrom (d := 1) hi hn h12 (by omega) _ _) (Nat.le_of_ble_eq_true rfl) (by omega) (Nat.le_of_ble_eq_true rfl) ?_
        refine V_istore (pc := 22) dX1_stepsTo_22 (by decide) rfl ?_
        refine V_iload_n (pc := 24) (i := 2) dX1_stepsTo_24 rfl rfl ?_
        refine V_iload (pc := 25) dX1_stepsTo_25 rfl ?_
        refine V_SN2i (pc := 27) dX1_stepsTo_27 cX1_28 (X11_isIn (d := 0) _ _) (Nat.le_of_ble_eq_true rfl) (by omega) (Nat.le_of_ble_eq_true rfl) ?_
        refine V_if_eq (pc := 30) 36 dX1_stepsTo_30 rfl (fun c30 => ?_) (fun c30 => ?_)
        · rw [stepF, if_neg (by rw [b2i_0.mp c30]; decide)]
          refine V_iinc (pc := 36) dX1_stepsTo_36 (by decide) rfl rfl (iincN (n := 1) (by decide)) ?_
          refine V_goto (pc := 39) 8 dX1_stepsTo_39 rfl ?_
          exact ih (s + 1) _ (by omega)
        · refine V_iload (pc := 33) dX1_stepsTo_33 rfl ?_
          exact VE_iret (pc := 35) dX1_stepsTo_35 rfl (by rw [stepF, if_pos (b2i_n0.mp c30)]) rfl
  exact loop 10 1 _ rfl
/-- the least of those that aren't -1 -/
def ringF (F : Nat → Int32) : Nat → Nat → Int32 → Int32
  | 0, _, x => x
  | m + 1, t, x => ringF F m (t + 1) (if ¬ F t = -1 ∧ (x = -1 ∨ F t < x) then F t else x)
theorem X1_shortestRing {ki n : Nat} (hi : IfsAt tb ki) (hn : S ki 4 = nI n) (h12 : n ≤ 12) (hd : 3 ≤ d) (dn : Int32) :
    VM G mX1_shortestRing d 0 0 [.ref (b + ki), .int dn] (xE (some (.int (ringF (fun t => stepF (fun x => ledF (S (ki + 1)) (S (ki + 3)) dn x n 0 0) (nI t) 10 1 (1 <<< (nI t &&& 31))) 10 0 (-1)))) (wH G b tb S h0)) (wH G b tb S h0) := by
  obtain ⟨k0, k1, k2, k3⟩ := id hi
  refine VM_start (ls := [some (.ref (b + ki)), some (.int dn), none, none, none]) rfl ?_
  -- %m X1_shortestRing
  refine V_iconst (pc := 0) (v := -1) dX1_shortestRing_0 (by decide) ?_
  refine V_istore_n (pc := 1) (i := 2) dX1_shortestRing_1 rfl (by decide) rfl ?_
  refine V_iconst (pc := 2) (v := 0) dX1_shortestRing_2 (by decide) ?_
  refine V_istore_n (pc := 3) (i := 3) dX1_shortestRing_3 rfl (by decide) rfl ?_
  have loop : ∀ (m t : Nat) (x : Int32), m + t = 10 → V G mX1_shortestRing d 0 0 (xE (some (.int (ringF (fun t => stepF (fun x => ledF (S (ki + 1)) (S (ki + 3)) dn x n 0 0) (nI t) 10 1 (1 <<< (nI t &&& 31))) m t x))) (wH G b tb S h0)) 4 [some (.ref (b + ki)), some (.int dn), some (.int x), some (.int (nI t)), none] [] (wH G b tb S h0) := by
    intro m
    induction m with
    | zero =>
      intro t x hm
      refine V_iload_n (pc := 4) (i := 3) dX1_shortestRing_4 rfl rfl ?_
      refine V_bipush (pc := 5) (v := 10) dX1_shortestRing_5 (by decide) ?_
      refine V_icmp_ge (pc := 7) 45 dX1_shortestRing_7 rfl (fun c7 => ?_) (fun c7 => ?_)
      · refine V_iload_n (pc := 45) (i := 2) dX1_shortestRing_45 rfl rfl ?_
        exact VE_iret (pc := 46) dX1_shortestRing_46 rfl rfl rfl
      · exact absurd (by rw [show t = 10 by omega]; decide) c7
    | succ m ih =>
      intro t x hm
      rw [ringF]
      refine V_iload_n (pc := 4) (i := 3) dX1_shortestRing_4 rfl rfl ?_
      refine V_bipush (pc := 5) (v := 10) dX1_shortestRing_5 (by decide) ?_
      refine V_icmp_ge (pc := 7) 45 dX1_shortestRing_7 rfl (fun c7 => ?_) (fun c7 => ?_)
      · exact absurd c7 (nI_ge (b := 10) (by omega) (by decide))
      · refine V_aload_n (pc := 10) (i := 0) dX1_shortestRing_10 rfl rfl ?_
        refine V_iload_n (pc := 11) (i := 3) dX1_shortestRing_11 rfl rfl ?_
        refine V_iload_n (pc := 12) (i := 3) dX1_shortestRing_12 rfl rfl ?_
        refine V_iload_n (pc := 13) (i := 1) dX1_shortestRing_13 rfl rfl ?_
        refine V_V3i (pc := 14) dX1_shortestRing_14 cX1_40 (by first | assumption | rfl) (X1_stepsTo (d := 2) hi hn h12 (by omega) _ _ _) (Nat.le_of_ble_eq_true rfl) (by omega) (Nat.le_of_ble_eq_true rfl) ?_
        generalize stepF (fun x => ledF (S (ki + 1)) (S (ki + 3)) dn x n 0 0) (nI t) 10 1 (1 <<< (nI t &&& 31)) = v
        refine V_istore (pc := 17) dX1_shortestRing_17 (by decide) rfl ?_
        refine V_iload (pc := 19) dX1_shortestRing_19 rfl ?_
        refine V_iconst (pc := 21) (v := -1) dX1_shortestRing_21 (by decide) ?_
        refine V_icmp_eq (pc := 22) 39 dX1_shortestRing_22 rfl (fun c22 => ?_) (fun c22 => ?_)
        · rw [if_neg (fun q => q.1 c22)]
          refine V_iinc (pc := 39) dX1_shortestRing_39 (by decide) rfl rfl (iincN (n := 1) (by decide)) ?_
          refine V_goto (pc := 42) 4 dX1_shortestRing_42 rfl ?_
          exact V_forget 4 (ih (t + 1) _ (by omega))
        · refine V_iload_n (pc := 25) (i := 2) dX1_shortestRing_25 rfl rfl ?_
          refine V_iconst (pc := 26) (v := -1) dX1_shortestRing_26 (by decide) ?_
          refine V_icmp_eq (pc := 27) 36 dX1_shortestRing_27 rfl (fun c27 => ?_) (fun c27 => ?_)
          · rw [if_pos ⟨c22, Or.inl c27⟩]
            refine V_iload (pc := 36) dX1_shortestRing_36 rfl ?_
            refine V_istore_n (pc := 38) (i := 2) dX1_shortestRing_38 rfl (by decide) rfl ?_
            refine V_iinc (pc := 39) dX1_shortestRing_39 (by decide) rfl rfl (iincN (n := 1) (by decide)) ?_
            refine V_goto (pc := 42) 4 dX1_shortestRing_42 rfl ?_
            exact V_forget 4 (ih (t + 1) _ (by omega))
          · refine V_iload (pc := 30) dX1_shortestRing_30 rfl ?_
            refine V_iload_n (pc := 32) (i := 2) dX1_shortestRing_32 rfl rfl ?_
            refine V_icmp_ge (pc := 33) 39 dX1_shortestRing_33 rfl (fun c33 => ?_) (fun c33 => ?_)
            · rw [if_neg (fun q => q.2.elim c27 (fun z => Int32.not_lt.mpr c33 z))]
              refine V_iinc (pc := 39) dX1_shortestRing_39 (by decide) rfl rfl (iincN (n := 1) (by decide)) ?_
              refine V_goto (pc := 42) 4 dX1_shortestRing_42 rfl ?_
              exact V_forget 4 (ih (t + 1) _ (by omega))
            · rw [if_pos ⟨c22, Or.inr (Int32.not_le.mp c33)⟩]
              refine V_iload (pc := 36) dX1_shortestRing_36 rfl ?_
              refine V_istore_n (pc := 38) (i := 2) dX1_shortestRing_38 rfl (by decide) rfl ?_
              refine V_iinc (pc := 39) dX1_shortestRing_39 (by decide) rfl rfl (iincN (n := 1) (by decide)) ?_
              refine V_goto (pc := 42) 4 dX1_shortestRing_42 rfl ?_
              exact V_forget 4 (ih (t + 1) _ (by omega))
  exact loop 10 0 _ rfl
/-- NEEDS and GIVES of those that aren't denied -/
def endF (f : Nat → Int32) (dn : Int32) : Nat → Nat → Int32 → Int32
  | 0, _, x => x
  | m + 1, i, x => endF f dn m (i + 1) (if hasB dn (nI i) then x else x ||| f i)
theorem X1_endsOf {ki n : Nat} (hi : IfsAt tb ki) (hn : S ki 4 = nI n) (h12 : n ≤ 12) (hd : 1 ≤ d) (dn : Int32) :
    VM G mX1_endsOf d 0 0 [.ref (b + ki), .int dn] (xE (some (.int (endF (S (ki + 1)) dn n 0 0 &&& (endF (fun i => 1 <<< (S (ki + 3) i &&& 31)) dn n 0 0 ^^^ -1)))) (wH G b tb S h0)) (wH G b tb S h0) := by
  obtain ⟨k0, k1, k2, k3⟩ := id hi
  refine VM_start (ls := [some (.ref (b + ki)), some (.int dn), none, none, none]) rfl ?_
  -- %m X1_endsOf
  refine V_iconst (pc := 0) (v := 0) dX1_endsOf_0 (by decide) ?_
  refine V_istore_n (pc := 1) (i := 2) dX1_endsOf_1 rfl (by decide) rfl ?_
  refine V_iconst (pc := 2) (v := 0) dX1_endsOf_2 (by decide) ?_
  refine V_istore_n (pc := 3) (i := 3) dX1_endsOf_3 rfl (by decide) rfl ?_
  refine V_iconst (pc := 4) (v := 0) dX1_endsOf_4 (by decide) ?_
  refine V_istore (pc := 5) dX1_endsOf_5 (by decide) rfl ?_
  have loop : ∀ (m i : Nat) (x y : Int32), m + i = n → V G mX1_endsOf d 0 0 (xE (some (.int (endF (S (ki + 1)) dn m i x &&& (endF (fun i => 1 <<< (S (ki + 3) i &&& 31)) dn m i y ^^^ -1)))) (wH G b tb S h0)) 7 [some (.ref (b + ki)), some (.int dn), some (.int x), some (.int y), some (.int (nI i))] [] (wH G b tb S h0) := by
    intro m
    induction m with
    | zero =>
      intro i x y hm
      refine V_iload (pc := 7) dX1_endsOf_7 rfl ?_
      refine V_aload_n (pc := 9) (i := 0) dX1_endsOf_9 rfl rfl ?_
      refine VW_getI (pc := 10) dX1_endsOf_10 fX1_25 (by first | assumption | rfl) rfl ?_
      refine V_icmp_ge (pc := 13) 53 dX1_endsOf_13 rfl (fun c13 => ?_) (fun c13 => ?_)
      · refine V_iload_n (pc := 53) (i := 2) dX1_endsOf_53 rfl rfl ?_
        refine V_iload_n (pc := 54) (i := 3) dX1_endsOf_54 rfl rfl ?_
        refine V_iconst (pc := 55) (v := -1) dX1_endsOf_55 (by decide) ?_
        refine V_ixor (pc := 56) dX1_endsOf_56 ?_
        refine V_iand (pc := 57) dX1_endsOf_57 ?_
        exact VE_iret (pc := 58) dX1_endsOf_58 rfl rfl rfl
      · exact absurd (by rw [hn, show i = n by omega]; exact nI_le (by omega) (by omega)) c13
    | succ m ih =>
      intro i x y hm
      rw [endF, endF]
      refine V_iload (pc := 7) dX1_endsOf_7 rfl ?_
      refine V_aload_n (pc := 9) (i := 0) dX1_endsOf_9 rfl rfl ?_
      refine VW_getI (pc := 10) dX1_endsOf_10 fX1_25 (by first | assumption | rfl) rfl ?_
      refine V_icmp_ge (pc := 13) 53 dX1_endsOf_13 rfl (fun c13 => ?_) (fun c13 => ?_)
      · exact absurd c13 (by rw [hn]; exact nI_ge (by omega) (by omega))
      · refine V_iload (pc := 16) dX1_endsOf_16 rfl ?_
        refine V_iload_n (pc := 18) (i := 1) dX1_endsOf_18 rfl rfl ?_
        refine V_SN2i (pc := 19) dX1_endsOf_19 cX1_28 (X11_isIn (d := 0) _ _) (Nat.le_of_ble_eq_true rfl) (by omega) (Nat.le_of_ble_eq_true rfl) ?_
        refine V_if_ne (pc := 22) 47 dX1_endsOf_22 rfl (fun c22 => ?_) (fun c22 => ?_)
        · rw [if_pos (b2i_n0.mp c22), if_pos (b2i_n0.mp c22)]
          refine V_iinc (pc := 47) dX1_endsOf_47 (by decide) rfl rfl (iincN (n := 1) (by decide)) ?_
          refine V_goto (pc := 50) 7 dX1_endsOf_50 rfl ?_
          exact ih (i + 1) _ _ (by omega)
        · rw [if_neg (by rw [b2i_0.mp c22]; decide), if_neg (by rw [b2i_0.mp c22]; decide)]
          refine V_iload_n (pc := 25) (i := 2) dX1_endsOf_25 rfl rfl ?_
          refine V_aload_n (pc := 26) (i := 0) dX1_endsOf_26 rfl rfl ?_
          refine VW_getR (pc := 27) dX1_endsOf_27 fX1_9 (by first | assumption | rfl) rfl ?_
          refine V_iload (pc := 30) dX1_endsOf_30 rfl ?_
          refine VW_ialdN (pc := 32) dX1_endsOf_32 (by first | assumption | rfl) rfl (by omega) (by first | decide | omega) ?_
          refine V_ior (pc := 33) dX1_endsOf_33 ?_
          refine V_istore_n (pc := 34) (i := 2) dX1_endsOf_34 rfl (by decide) rfl ?_
          refine V_iload_n (pc := 35) (i := 3) dX1_endsOf_35 rfl rfl ?_
          refine V_iconst (pc := 36) (v := 1) dX1_endsOf_36 (by decide) ?_
          refine V_aload_n (pc := 37) (i := 0) dX1_endsOf_37 rfl rfl ?_
          refine VW_getR (pc := 38) dX1_endsOf_38 fX1_18 (by first | assumption | rfl) rfl ?_
          refine V_iload (pc := 41) dX1_endsOf_41 rfl ?_
          refine VW_ialdN (pc := 43) dX1_endsOf_43 (by first | assumption | rfl) rfl (by omega) (by first | decide | omega) ?_
          refine V_ishl (pc := 44) dX1_endsOf_44 ?_
          refine V_ior (pc := 45) dX1_endsOf_45 ?_
          refine V_istore_n (pc := 46) (i := 3) dX1_endsOf_46 rfl (by decide) rfl ?_
          refine V_iinc (pc := 47) dX1_endsOf_47 (by decide) rfl rfl (iincN (n := 1) (by decide)) ?_
          refine V_goto (pc := 50) 7 dX1_endsOf_50 rfl ?_
          exact ih (i + 1) _ _ (by omega)
  exact loop n 0 0 0 rfl
end Ifs2
