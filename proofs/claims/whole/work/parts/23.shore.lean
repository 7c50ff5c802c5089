/-! ===== the class's cells; Shore, Rule ===== -/
def tbC : xTb := [.inr (11, [3, 19, 24, 26, 29, 30, 42, 45, 59, 1, 0, 0]), .inr (3, [4, 1, 0, 0]), .inr (9, [5, 0, 0, 0, 0, 0, 0]), .inl (1, 700), .inr (7, [7, 8, 12, 15, 16, 17, 18, 0, 0, 0, 0]), .inl (0, 10), .inr (1, [9, 10, 11, 0, 0]), .inl (0, 12), .inl (0, 12), .inl (0, 12), .inr (4, [13, 14, 0]), .inl (0, 700), .inl (0, 64), .inl (0, 8), .inl (0, 8), .inl (0, 8), .inl (0, 8), .inr (8, [20, 21, 22, 23, 0, 0, 0, 0]), .inl (0, 8), .inl (0, 8), .inl (0, 8), .inl (0, 8), .inr (0, [25, 0, 0]), .inl (0, 1440), .inr (5, [27, 28, 0, 0]), .inl (0, 8), .inl (0, 8), .inl (0, 3), .inr (2, [31, 36, 38, 41, 0]), .inr (8, [32, 33, 34, 35, 0, 0, 0, 0]), .inl (0, 8), .inl (0, 8), .inl (0, 8), .inl (0, 8), .inr (0, [37, 0, 0]), .inl (0, 1440), .inr (5, [39, 40, 0, 0]), .inl (0, 8), .inl (0, 8), .inl (0, 3), .inr (6, [43, 44]), .inl (0, 1024), .inl (0, 1024), .inl (0, 10), .inr (7, [47, 48, 52, 55, 56, 57, 58, 0, 0, 0, 0]), .inl (0, 10), .inr (1, [49, 50, 51, 0, 0]), .inl (0, 12), .inl (0, 12), .inl (0, 12), .inr (4, [53, 54, 0]), .inl (0, 700), .inl (0, 64), .inl (0, 8), .inl (0, 8), .inl (0, 8), .inl (0, 8), .inr (10, [60, 65, 66, 67, 68, 69, 1, 0]), .inr (8, [61, 62, 63, 64, 0, 0, 0, 0]), .inl (0, 8), .inl (0, 8), .inl (0, 8), .inl (0, 8), .inl (0, 8), .inl (0, 8), .inl (0, 8), .inl (0, 8), .inl (0, 7)]
theorem tbC_shore (x : Int32) : ShoreAt tbC (shC x) := by
  unfold shC
  split
  · exact ⟨rfl, rfl, ⟨rfl, rfl, rfl, rfl⟩, ⟨rfl, rfl, rfl⟩, rfl, rfl, rfl, rfl⟩
  · exact ⟨rfl, rfl, ⟨rfl, rfl, rfl, rfl⟩, ⟨rfl, rfl, rfl⟩, rfl, rfl, rfl, rfl⟩
theorem shC_or (x : Int32) : shC x = 4 ∨ shC x = 44 := by
  unfold shC
  split
  · exact Or.inr rfl
  · exact Or.inl rfl
theorem tbC_17 : StateAt tbC 17 := ⟨rfl, rfl, rfl, rfl, rfl⟩
theorem tbC_29 : StateAt tbC 29 := ⟨rfl, rfl, rfl, rfl, rfl⟩
theorem tbC_58 : StateAt tbC 58 := ⟨rfl, rfl, rfl, rfl, rfl⟩
theorem tbC_22 : ActsAt tbC 22 := ⟨rfl, rfl⟩
theorem tbC_34 : ActsAt tbC 34 := ⟨rfl, rfl⟩
theorem tbC_24 : SeenAt tbC 24 := ⟨rfl, rfl, rfl⟩
theorem tbC_36 : SeenAt tbC 36 := ⟨rfl, rfl, rfl⟩
section Sh
variable {G : xG} {d bc bs : Nat} {b : Nat} {tb : xTb} {S : Nat → Nat → Int32} {h0 h : xH}
/-- the sum of f over the bits of t: m from i on -/
def sumB (f : Nat → Int32) (t : Int32) : Nat → Nat → Int32 → Int32
  | 0, _, x => x
  | m + 1, i, x => sumB f t m (i + 1) (if hasB t (nI i) then x + f i else x)
theorem X7_worthOf {s : Nat} (hs : ShoreAt tb s) (hd : 1 ≤ d) (t : Int32) : VM G mX7_worthOf d 0 0 [.ref (b + s), .int t] (xE (some (.int (sumB (S (s + 1)) t 10 0 0))) (wH G b tb S h0)) (wH G b tb S h0) := by
  obtain ⟨k0, k1, -⟩ := hs
  refine VM_start (ls := [some (.ref (b + s)), some (.int t), none, none]) rfl ?_
  -- %m X7_worthOf
  refine V_iconst (pc := 0) (v := 0) dX7_worthOf_0 (by decide) ?_
  refine V_istore_n (pc := 1) (i := 2) dX7_worthOf_1 rfl (by decide) rfl ?_
  refine V_iconst (pc := 2) (v := 0) dX7_worthOf_2 (by decide) ?_
  refine V_istore_n (pc := 3) (i := 3) dX7_worthOf_3 rfl (by decide) rfl ?_
  have loop : ∀ (m i : Nat) (x : Int32), m + i = 10 → V G mX7_worthOf d 0 0 (xE (some (.int (sumB (S (s + 1)) t m i x))) (wH G b tb S h0)) 4 [some (.ref (b + s)), some (.int t), some (.int x), some (.int (nI i))] [] (wH G b tb S h0) := by
    intro m
    induction m with
    | zero =>
      intro i x hm
      refine V_iload_n (pc := 4) (i := 3) dX7_worthOf_4 rfl rfl ?_
      refine V_bipush (pc := 5) (v := 10) dX7_worthOf_5 (by decide) ?_
      refine V_icmp_ge (pc := 7) 33 dX7_worthOf_7 rfl (fun c7 => ?_) (fun c7 => ?_)
      · refine V_iload_n (pc := 33) (i := 2) dX7_worthOf_33 rfl rfl ?_
        exact VE_iret (pc := 34) dX7_worthOf_34 rfl rfl rfl
      · exact absurd (by rw [show i = 10 by omega]; decide) c7
    | succ m ih =>
      intro i x hm
      rw [sumB]
      refine V_iload_n (pc := 4) (i := 3) dX7_worthOf_4 rfl rfl ?_
      refine V_bipush (pc := 5) (v := 10) dX7_worthOf_5 (by decide) ?_
      refine V_icmp_ge (pc := 7) 33 dX7_worthOf_7 rfl (fun c7 => ?_) (fun c7 => ?_)
      · exact absurd c7 (nI_ge (b := 10) (by omega) (by decide))
      · refine V_iload_n (pc := 10) (i := 3) dX7_worthOf_10 rfl rfl ?_
        refine V_iload_n (pc := 11) (i := 1) dX7_worthOf_11 rfl rfl ?_
        refine V_SN2i (pc := 12) dX7_worthOf_12 cX7_65 (X11_isIn (d := 0) _ _) (Nat.le_of_ble_eq_true rfl) (by omega) (Nat.le_of_ble_eq_true rfl) ?_
        refine V_if_eq (pc := 15) 27 dX7_worthOf_15 rfl (fun c15 => ?_) (fun c15 => ?_)
        · rw [if_neg (by rw [b2i_0.mp c15]; decide)]
          refine V_iinc (pc := 27) dX7_worthOf_27 (by decide) rfl rfl (iincN (n := 1) (by decide)) ?_
          refine V_goto (pc := 30) 4 dX7_worthOf_30 rfl ?_
          exact ih (i + 1) _ (by omega)
        · rw [if_pos (b2i_n0.mp c15)]
          refine V_iload_n (pc := 18) (i := 2) dX7_worthOf_18 rfl rfl ?_
          refine V_aload_n (pc := 19) (i := 0) dX7_worthOf_19 rfl rfl ?_
          refine VW_getR (pc := 20) dX7_worthOf_20 fX7_9 (by first | assumption | rfl) rfl ?_
          refine V_iload_n (pc := 23) (i := 3) dX7_worthOf_23 rfl rfl ?_
          refine VW_ialdN (pc := 24) dX7_worthOf_24 (by first | assumption | rfl) rfl (by omega) (by first | decide | omega) ?_
          refine V_iadd (pc := 25) dX7_worthOf_25 ?_
          refine V_istore_n (pc := 26) (i := 2) dX7_worthOf_26 rfl (by decide) rfl ?_
          refine V_iinc (pc := 27) dX7_worthOf_27 (by decide) rfl rfl (iincN (n := 1) (by decide)) ?_
          refine V_goto (pc := 30) 4 dX7_worthOf_30 rfl ?_
          exact ih (i + 1) _ (by omega)
  exact loop 10 0 0 rfl
/-- THERE of the person q by the state at k, of the shore at s with n IFS -/
def cThere (S : Nat → Nat → Int32) (s k n q : Nat) : Int32 := allF (cF S (s + 2) n (S k 4)) (S (s + 5)) 10 (S (k + 1) q ||| 1 <<< (S (k + 2) q &&& 31))
def cSpare (S : Nat → Nat → Int32) (s k n q : Nat) : Int32 := allF (cF S (s + 2) n (S k 4)) (S (s + 5)) 10 (S (k + 1) q &&& (1 <<< (S (s + 9) q &&& 31) ^^^ -1))
theorem X7_thereOf {s k n q : Nat} (hs : ShoreAt tb s) (hk : StateAt tb k) (hn : S (s + 2) 4 = nI n) (h12 : n ≤ 12) (hq : q < 8) (hd : 3 ≤ d) : VM G mX7_thereOf d 0 0 [.ref (b + s), .ref (b + k), .int (nI q)] (xE (some (.int (cThere S s k n q))) (wH G b tb S h0)) (wH G b tb S h0) := by
  obtain ⟨a0, a1, a2, a3, a4, a5, a6, a7⟩ := hs
  obtain ⟨k0, k1, k2, k3, k4⟩ := hk
  obtain ⟨i0, -⟩ := id a2
  refine VM_start (ls := [some (.ref (b + s)), some (.ref (b + k)), some (.int (nI q))]) rfl ?_
  -- %m X7_thereOf
  refine V_aload_n (pc := 0) (i := 0) dX7_thereOf_0 rfl rfl ?_
  refine VW_getR (pc := 1) dX7_thereOf_1 fX7_18 (by first | assumption | rfl) rfl ?_
  refine V_aload_n (pc := 4) (i := 1) dX7_thereOf_4 rfl rfl ?_
  refine VW_getR (pc := 5) dX7_thereOf_5 fX7_69 (by first | assumption | rfl) rfl ?_
  refine V_iload_n (pc := 8) (i := 2) dX7_thereOf_8 rfl rfl ?_
  refine VW_ialdN (pc := 9) dX7_thereOf_9 (by first | assumption | rfl) rfl (by omega) (by first | decide | omega) ?_
  refine V_iconst (pc := 10) (v := 1) dX7_thereOf_10 (by decide) ?_
  refine V_aload_n (pc := 11) (i := 1) dX7_thereOf_11 rfl rfl ?_
  refine VW_getR (pc := 12) dX7_thereOf_12 fX7_74 (by first | assumption | rfl) rfl ?_
  refine V_iload_n (pc := 15) (i := 2) dX7_thereOf_15 rfl rfl ?_
  refine VW_ialdN (pc := 16) dX7_thereOf_16 (by first | assumption | rfl) rfl (by omega) (by first | decide | omega) ?_
  refine V_ishl (pc := 17) dX7_thereOf_17 ?_
  refine V_ior (pc := 18) dX7_thereOf_18 ?_
  refine V_aload_n (pc := 19) (i := 1) dX7_thereOf_19 rfl rfl ?_
  refine VW_getI (pc := 20) dX7_thereOf_20 fX7_77 (by first | assumption | rfl) rfl ?_
  refine V_V2i (pc := 23) dX7_thereOf_23 cX7_80 (by first | assumption | rfl) (X1_allFrom (d := 2) a2 hn h12 (by omega) _ _) (Nat.le_of_ble_eq_true rfl) (by omega) (Nat.le_of_ble_eq_true rfl) ?_
  exact VE_iret (pc := 26) dX7_thereOf_26 rfl rfl rfl
theorem X7_sparedBankOf {s k n q : Nat} (hs : ShoreAt tb s) (hk : StateAt tb k) (hn : S (s + 2) 4 = nI n) (h12 : n ≤ 12) (hq : q < 8) (hd : 3 ≤ d) : VM G mX7_sparedBankOf d 0 0 [.ref (b + s), .ref (b + k), .int (nI q)] (xE (some (.int (cSpare S s k n q))) (wH G b tb S h0)) (wH G b tb S h0) := by
  obtain ⟨a0, a1, a2, a3, a4, a5, a6, a7⟩ := hs
  obtain ⟨k0, k1, k2, k3, k4⟩ := hk
  obtain ⟨i0, -⟩ := id a2
  refine VM_start (ls := [some (.ref (b + s)), some (.ref (b + k)), some (.int (nI q))]) rfl ?_
  -- %m X7_sparedBankOf
  refine V_aload_n (pc := 0) (i := 0) dX7_sparedBankOf_0 rfl rfl ?_
  refine VW_getR (pc := 1) dX7_sparedBankOf_1 fX7_18 (by first | assumption | rfl) rfl ?_
  refine V_aload_n (pc := 4) (i := 1) dX7_sparedBankOf_4 rfl rfl ?_
  refine VW_getR (pc := 5) dX7_sparedBankOf_5 fX7_69 (by first | assumption | rfl) rfl ?_
  refine V_iload_n (pc := 8) (i := 2) dX7_sparedBankOf_8 rfl rfl ?_
  refine VW_ialdN (pc := 9) dX7_sparedBankOf_9 (by first | assumption | rfl) rfl (by omega) (by first | decide | omega) ?_
  refine V_iconst (pc := 10) (v := 1) dX7_sparedBankOf_10 (by decide) ?_
  refine V_aload_n (pc := 11) (i := 0) dX7_sparedBankOf_11 rfl rfl ?_
  refine VW_getR (pc := 12) dX7_sparedBankOf_12 fX7_29 (by first | assumption | rfl) rfl ?_
  refine V_iload_n (pc := 15) (i := 2) dX7_sparedBankOf_15 rfl rfl ?_
  refine VW_ialdN (pc := 16) dX7_sparedBankOf_16 (by first | assumption | rfl) rfl (by omega) (by first | decide | omega) ?_
  refine V_ishl (pc := 17) dX7_sparedBankOf_17 ?_
  refine V_iconst (pc := 18) (v := -1) dX7_sparedBankOf_18 (by decide) ?_
  refine V_ixor (pc := 19) dX7_sparedBankOf_19 ?_
  refine V_iand (pc := 20) dX7_sparedBankOf_20 ?_
  refine V_aload_n (pc := 21) (i := 1) dX7_sparedBankOf_21 rfl rfl ?_
  refine VW_getI (pc := 22) dX7_sparedBankOf_22 fX7_77 (by first | assumption | rfl) rfl ?_
  refine V_V2i (pc := 25) dX7_sparedBankOf_25 cX7_80 (by first | assumption | rfl) (X1_allFrom (d := 2) a2 hn h12 (by omega) _ _) (Nat.le_of_ble_eq_true rfl) (by omega) (Nat.le_of_ble_eq_true rfl) ?_
  exact VE_iret (pc := 28) dX7_sparedBankOf_28 rfl rfl rfl
theorem X1_clear {k : Nat} (hs : IfsAt tb k) (hb : gB G ≤ b) : VM G mX1_clear d 0 0 [.ref (b + k)] (xE none (wH G b tb (up2 (up2 S k 3 0) k 4 0) h0)) (wH G b tb S h0) := by
  obtain ⟨k0, k1, k2, k3⟩ := hs
  refine VM_start (ls := [some (.ref (b + k))]) rfl ?_
  -- %m X1_clear
  refine V_aload_n (pc := 0) (i := 0) dX1_clear_0 rfl rfl ?_
  refine V_iconst (pc := 1) (v := 0) dX1_clear_1 (by decide) ?_
  refine VW_putI (pc := 2) dX1_clear_2 fX1_21 ftX1 (fpI rfl rfl (tyX1_ok 3 (by decide))) (by first | assumption | rfl) rfl (by assumption) ?_
  refine V_aload_n (pc := 5) (i := 0) dX1_clear_5 rfl rfl ?_
  refine V_iconst (pc := 6) (v := 0) dX1_clear_6 (by decide) ?_
  refine VW_putI (pc := 7) dX1_clear_7 fX1_25 ftX1 (fpI rfl rfl (tyX1_ok 4 (by decide))) (by first | assumption | rfl) rfl (by assumption) ?_
  exact VE_vret (pc := 10) dX1_clear_10 rfl rfl
def ifsAdd (S : Nat → Nat → Int32) (k n : Nat) (x y z u : Int32) : Nat → Nat → Int32 := up2 (up2 (up2 (up2 (up2 S (k + 1) n x) (k + 2) n y) (k + 3) n z) k 3 (S k 3 ||| (if u = 0 then (0 : Int32) else 1 <<< (nI n &&& 31)))) k 4 (nI n + 1)
theorem X1_add {k n : Nat} (hs : IfsAt tb k) (hn : S k 4 = nI n) (h12 : n < 12) (hb : gB G ≤ b) (x y z u : Int32) : VM G mX1_add d 0 0 [.ref (b + k), .int x, .int y, .int z, .int u] (xE none (wH G b tb (ifsAdd S k n x y z u) h0)) (wH G b tb S h0) := by
  obtain ⟨k0, k1, k2, k3⟩ := hs
  refine VM_start (ls := [some (.ref (b + k)), some (.int x), some (.int y), some (.int z), some (.int u)]) rfl ?_
  unfold ifsAdd
  -- %m X1_add
  refine V_aload_n (pc := 0) (i := 0) dX1_add_0 rfl rfl ?_
  refine VW_getI (pc := 1) dX1_add_1 fX1_25 (by first | assumption | rfl) rfl ?_
  refine V_bipush (pc := 4) (v := 12) dX1_add_4 (by decide) ?_
  refine V_icmp_lt (pc := 6) 10 dX1_add_6 rfl (fun c6 => ?_) (fun c6 => ?_)
  · refine V_aload_n (pc := 10) (i := 0) dX1_add_10 rfl rfl ?_
    refine VW_getR (pc := 11) dX1_add_11 fX1_9 (by first | assumption | rfl) rfl ?_
    refine V_aload_n (pc := 14) (i := 0) dX1_add_14 rfl rfl ?_
    refine VW_getI (pc := 15) dX1_add_15 fX1_25 (by first | assumption | rfl) rfl ?_
    rw [hn]
    refine V_iload_n (pc := 18) (i := 1) dX1_add_18 rfl rfl ?_
    refine VW_iastN (pc := 19) dX1_add_19 (by first | assumption | rfl) (by assumption) rfl (by omega) (by first | decide | omega) ?_
    refine V_aload_n (pc := 20) (i := 0) dX1_add_20 rfl rfl ?_
    refine VW_getR (pc := 21) dX1_add_21 fX1_15 (by first | assumption | rfl) rfl ?_
    refine V_aload_n (pc := 24) (i := 0) dX1_add_24 rfl rfl ?_
    refine VW_getI (pc := 25) dX1_add_25 fX1_25 (by first | assumption | rfl) rfl ?_
    simp (disch := omega) only [up2_row, up2_col, hn]
    refine V_iload_n (pc := 28) (i := 2) dX1_add_28 rfl rfl ?_
    refine VW_iastN (pc := 29) dX1_add_29 (by first | assumption | rfl) (by assumption) rfl (by omega) (by first | decide | omega) ?_
    refine V_aload_n (pc := 30) (i := 0) dX1_add_30 rfl rfl ?_
    refine VW_getR (pc := 31) dX1_add_31 fX1_18 (by first | assumption | rfl) rfl ?_
    refine V_aload_n (pc := 34) (i := 0) dX1_add_34 rfl rfl ?_
    refine VW_getI (pc := 35) dX1_add_35 fX1_25 (by first | assumption | rfl) rfl ?_
    simp (disch := omega) only [up2_row, up2_col, hn]
    refine V_iload_n (pc := 38) (i := 3) dX1_add_38 rfl rfl ?_
    refine VW_iastN (pc := 39) dX1_add_39 (by first | assumption | rfl) (by assumption) rfl (by omega) (by first | decide | omega) ?_
    refine V_aload_n (pc := 40) (i := 0) dX1_add_40 rfl rfl ?_
    refine V_dup (pc := 41) dX1_add_41 rfl ?_
    refine VW_getI (pc := 42) dX1_add_42 fX1_21 (by first | assumption | rfl) rfl ?_
    simp (disch := omega) only [up2_row, up2_col]
    refine V_iload (pc := 45) dX1_add_45 rfl ?_
    refine V_if_eq (pc := 47) 59 dX1_add_47 rfl (fun c47 => ?_) (fun c47 => ?_)
    · rw [if_pos c47]
      refine V_iconst (pc := 59) (v := 0) dX1_add_59 (by decide) ?_
      refine V_ior (pc := 60) dX1_add_60 ?_
      refine VW_putI (pc := 61) dX1_add_61 fX1_21 ftX1 (fpI rfl rfl (tyX1_ok 3 (by decide))) (by first | assumption | rfl) rfl (by assumption) ?_
      refine V_aload_n (pc := 64) (i := 0) dX1_add_64 rfl rfl ?_
      refine V_dup (pc := 65) dX1_add_65 rfl ?_
      refine VW_getI (pc := 66) dX1_add_66 fX1_25 (by first | assumption | rfl) rfl ?_
      simp (disch := omega) only [up2_row, up2_col, hn]
      refine V_iconst (pc := 69) (v := 1) dX1_add_69 (by decide) ?_
      refine V_iadd (pc := 70) dX1_add_70 ?_
      refine VW_putI (pc := 71) dX1_add_71 fX1_25 ftX1 (fpI rfl rfl (tyX1_ok 4 (by decide))) (by first | assumption | rfl) rfl (by assumption) ?_
      exact VE_vret (pc := 74) dX1_add_74 rfl rfl
    · rw [if_neg c47]
      refine V_iconst (pc := 50) (v := 1) dX1_add_50 (by decide) ?_
      refine V_aload_n (pc := 51) (i := 0) dX1_add_51 rfl rfl ?_
      refine VW_getI (pc := 52) dX1_add_52 fX1_25 (by first | assumption | rfl) rfl ?_
      simp (disch := omega) only [up2_row, up2_col, hn]
      refine V_ishl (pc := 55) dX1_add_55 ?_
      refine V_goto (pc := 56) 60 dX1_add_56 rfl ?_
      refine V_ior (pc := 60) dX1_add_60 ?_
      refine VW_putI (pc := 61) dX1_add_61 fX1_21 ftX1 (fpI rfl rfl (tyX1_ok 3 (by decide))) (by first | assumption | rfl) rfl (by assumption) ?_
      refine V_aload_n (pc := 64) (i := 0) dX1_add_64 rfl rfl ?_
      refine V_dup (pc := 65) dX1_add_65 rfl ?_
      refine VW_getI (pc := 66) dX1_add_66 fX1_25 (by first | assumption | rfl) rfl ?_
      simp (disch := omega) only [up2_row, up2_col, hn]
      refine V_iconst (pc := 69) (v := 1) dX1_add_69 (by decide) ?_
      refine V_iadd (pc := 70) dX1_add_70 ?_
      refine VW_putI (pc := 71) dX1_add_71 fX1_25 ftX1 (fpI rfl rfl (tyX1_ok 4 (by decide))) (by first | assumption | rfl) rfl (by assumption) ?_
      exact VE_vret (pc := 74) dX1_add_74 rfl rfl
  · exact absurd (by rw [hn]; exact nI_lt (b := 12) h12 (by decide)) c6
def shClear (S : Nat → Nat → Int32) (s : Nat) : Nat → Nat → Int32 := up2 (up2 (up2 (up2 (up2 (up2 (up2 (upR S (s + 1) (fillR (S (s + 1)) 0 0 10)) (s + 2) 3 0) (s + 2) 4 0) (s + 6) 2 0) s 7 0) s 8 0) s 9 4) s 10 0
theorem X7_clear {s : Nat} (hs : ShoreAt tb s) (hb : gB G ≤ b) (hd : 1 ≤ d) : VM G mX7_clear d 0 0 [.ref (b + s)] (xE none (wH G b tb (shClear S s) h0)) (wH G b tb S h0) := by
  obtain ⟨a0, a1, a2, a3, a4, a5, a6, a7⟩ := hs
  obtain ⟨i0, -⟩ := id a2
  obtain ⟨r0, -⟩ := id a3
  refine VM_start (ls := [some (.ref (b + s))]) rfl ?_
  -- %m X7_clear
  refine V_aload_n (pc := 0) (i := 0) dX7_clear_0 rfl rfl ?_
  refine VW_getR (pc := 1) dX7_clear_1 fX7_9 (by first | assumption | rfl) rfl ?_
  refine V_iconst (pc := 4) (v := 0) dX7_clear_4 (by decide) ?_
  refine V_S2v (pc := 5) dX7_clear_5 cX7_55 (J7_fill (d := 0) a1 (by decide) hb _) (Nat.le_of_ble_eq_true rfl) (by omega) (Nat.le_of_ble_eq_true rfl) ?_
  refine V_aload_n (pc := 8) (i := 0) dX7_clear_8 rfl rfl ?_
  refine VW_getR (pc := 9) dX7_clear_9 fX7_18 (by first | assumption | rfl) rfl ?_
  refine V_V0v (pc := 12) dX7_clear_12 cX7_61 (by first | assumption | rfl) (X1_clear (d := 0) a2 hb) (Nat.le_of_ble_eq_true rfl) (by omega) (Nat.le_of_ble_eq_true rfl) ?_
  refine V_aload_n (pc := 15) (i := 0) dX7_clear_15 rfl rfl ?_
  refine VW_getR (pc := 16) dX7_clear_16 fX7_25 (by first | assumption | rfl) rfl ?_
  refine V_V0v (pc := 19) dX7_clear_19 cX7_64 (by first | assumption | rfl) (X4_clear (d := 0) a3 hb) (Nat.le_of_ble_eq_true rfl) (by omega) (Nat.le_of_ble_eq_true rfl) ?_
  refine V_aload_n (pc := 22) (i := 0) dX7_clear_22 rfl rfl ?_
  refine V_iconst (pc := 23) (v := 0) dX7_clear_23 (by decide) ?_
  refine VW_putI (pc := 24) dX7_clear_24 fX7_41 ftX7 (fpI rfl rfl (tyX7_ok 7 (by decide))) (by first | assumption | rfl) rfl (by assumption) ?_
  refine V_aload_n (pc := 27) (i := 0) dX7_clear_27 rfl rfl ?_
  refine V_iconst (pc := 28) (v := 0) dX7_clear_28 (by decide) ?_
  refine VW_putI (pc := 29) dX7_clear_29 fX7_45 ftX7 (fpI rfl rfl (tyX7_ok 8 (by decide))) (by first | assumption | rfl) rfl (by assumption) ?_
  refine V_aload_n (pc := 32) (i := 0) dX7_clear_32 rfl rfl ?_
  refine V_iconst (pc := 33) (v := 4) dX7_clear_33 (by decide) ?_
  refine VW_putI (pc := 34) dX7_clear_34 fX7_48 ftX7 (fpI rfl rfl (tyX7_ok 9 (by decide))) (by first | assumption | rfl) rfl (by assumption) ?_
  refine V_aload_n (pc := 37) (i := 0) dX7_clear_37 rfl rfl ?_
  refine V_iconst (pc := 38) (v := 0) dX7_clear_38 (by decide) ?_
  refine VW_putI (pc := 39) dX7_clear_39 fX7_51 ftX7 (fpZ rfl rfl (tyX7_ok 10 (by decide)) (by first | exact Or.inl rfl | exact Or.inr rfl)) (by first | assumption | rfl) rfl (by assumption) ?_
  exact VE_vret (pc := 42) dX7_clear_42 rfl rfl
theorem X7_tellWorth {s q : Nat} (hs : ShoreAt tb s) (hq : q < 10) (hb : gB G ≤ b) (x : Int32) : VM G mX7_tellWorth d 0 0 [.ref (b + s), .int (nI q), .int x] (xE none (wH G b tb (up2 (up2 S (s + 1) q x) s 8 (S s 8 ||| 1 <<< (nI q &&& 31))) h0)) (wH G b tb S h0) := by
  obtain ⟨a0, a1, -⟩ := hs
  refine VM_start (ls := [some (.ref (b + s)), some (.int (nI q)), some (.int x)]) rfl ?_
  -- %m X7_tellWorth
  refine V_aload_n (pc := 0) (i := 0) dX7_tellWorth_0 rfl rfl ?_
  refine VW_getR (pc := 1) dX7_tellWorth_1 fX7_9 (by first | assumption | rfl) rfl ?_
  refine V_iload_n (pc := 4) (i := 1) dX7_tellWorth_4 rfl rfl ?_
  refine V_iload_n (pc := 5) (i := 2) dX7_tellWorth_5 rfl rfl ?_
  refine VW_iastN (pc := 6) dX7_tellWorth_6 (by first | assumption | rfl) (by assumption) rfl (by omega) (by first | decide | omega) ?_
  refine V_aload_n (pc := 7) (i := 0) dX7_tellWorth_7 rfl rfl ?_
  refine V_dup (pc := 8) dX7_tellWorth_8 rfl ?_
  refine VW_getI (pc := 9) dX7_tellWorth_9 fX7_45 (by first | assumption | rfl) rfl ?_
  simp (disch := omega) only [up2_row]
  refine V_iconst (pc := 12) (v := 1) dX7_tellWorth_12 (by decide) ?_
  refine V_iload_n (pc := 13) (i := 1) dX7_tellWorth_13 rfl rfl ?_
  refine V_ishl (pc := 14) dX7_tellWorth_14 ?_
  refine V_ior (pc := 15) dX7_tellWorth_15 ?_
  refine VW_putI (pc := 16) dX7_tellWorth_16 fX7_45 ftX7 (fpI rfl rfl (tyX7_ok 8 (by decide))) (by first | assumption | rfl) rfl (by assumption) ?_
  exact VE_vret (pc := 19) dX7_tellWorth_19 rfl rfl
def shAdd (S : Nat → Nat → Int32) (s n : Nat) (x y z u : Int32) : Nat → Nat → Int32 := up2 (up2 (up2 (up2 (up2 S (s + 10) n x) (s + 11) n y) (s + 9) n z) (s + 12) n u) s 7 (nI n + 1)
theorem X7_addPerson {s n : Nat} (hs : ShoreAt tb s) (hn : S s 7 = nI n) (h8 : n < 8) (hb : gB G ≤ b) (x y z u : Int32) : VM G mX7_addPerson d 0 0 [.ref (b + s), .int x, .int y, .int z, .int u] (xE none (wH G b tb (shAdd S s n x y z u) h0)) (wH G b tb S h0) := by
  obtain ⟨a0, a1, a2, a3, a4, a5, a6, a7⟩ := hs
  refine VM_start (ls := [some (.ref (b + s)), some (.int x), some (.int y), some (.int z), some (.int u)]) rfl ?_
  unfold shAdd
  -- %m X7_addPerson
  refine V_aload_n (pc := 0) (i := 0) dX7_addPerson_0 rfl rfl ?_
  refine VW_getI (pc := 1) dX7_addPerson_1 fX7_41 (by first | assumption | rfl) rfl ?_
  refine V_bipush (pc := 4) (v := 8) dX7_addPerson_4 (by decide) ?_
  refine V_icmp_lt (pc := 6) 10 dX7_addPerson_6 rfl (fun c6 => ?_) (fun c6 => ?_)
  · refine V_aload_n (pc := 10) (i := 0) dX7_addPerson_10 rfl rfl ?_
    refine VW_getR (pc := 11) dX7_addPerson_11 fX7_32 (by first | assumption | rfl) rfl ?_
    refine V_aload_n (pc := 14) (i := 0) dX7_addPerson_14 rfl rfl ?_
    refine VW_getI (pc := 15) dX7_addPerson_15 fX7_41 (by first | assumption | rfl) rfl ?_
    rw [hn]
    refine V_iload_n (pc := 18) (i := 1) dX7_addPerson_18 rfl rfl ?_
    refine VW_iastN (pc := 19) dX7_addPerson_19 (by first | assumption | rfl) (by assumption) rfl (by omega) (by first | decide | omega) ?_
    refine V_aload_n (pc := 20) (i := 0) dX7_addPerson_20 rfl rfl ?_
    refine VW_getR (pc := 21) dX7_addPerson_21 fX7_35 (by first | assumption | rfl) rfl ?_
    refine V_aload_n (pc := 24) (i := 0) dX7_addPerson_24 rfl rfl ?_
    refine VW_getI (pc := 25) dX7_addPerson_25 fX7_41 (by first | assumption | rfl) rfl ?_
    simp (disch := omega) only [up2_row, up2_col, hn]
    refine V_iload_n (pc := 28) (i := 2) dX7_addPerson_28 rfl rfl ?_
    refine VW_iastN (pc := 29) dX7_addPerson_29 (by first | assumption | rfl) (by assumption) rfl (by omega) (by first | decide | omega) ?_
    refine V_aload_n (pc := 30) (i := 0) dX7_addPerson_30 rfl rfl ?_
    refine VW_getR (pc := 31) dX7_addPerson_31 fX7_29 (by first | assumption | rfl) rfl ?_
    refine V_aload_n (pc := 34) (i := 0) dX7_addPerson_34 rfl rfl ?_
    refine VW_getI (pc := 35) dX7_addPerson_35 fX7_41 (by first | assumption | rfl) rfl ?_
    simp (disch := omega) only [up2_row, up2_col, hn]
    refine V_iload_n (pc := 38) (i := 3) dX7_addPerson_38 rfl rfl ?_
    refine VW_iastN (pc := 39) dX7_addPerson_39 (by first | assumption | rfl) (by assumption) rfl (by omega) (by first | decide | omega) ?_
    refine V_aload_n (pc := 40) (i := 0) dX7_addPerson_40 rfl rfl ?_
    refine VW_getR (pc := 41) dX7_addPerson_41 fX7_38 (by first | assumption | rfl) rfl ?_
    refine V_aload_n (pc := 44) (i := 0) dX7_addPerson_44 rfl rfl ?_
    refine VW_getI (pc := 45) dX7_addPerson_45 fX7_41 (by first | assumption | rfl) rfl ?_
    simp (disch := omega) only [up2_row, up2_col, hn]
    refine V_iload (pc := 48) dX7_addPerson_48 rfl ?_
    refine VW_iastN (pc := 50) dX7_addPerson_50 (by first | assumption | rfl) (by assumption) rfl (by omega) (by first | decide | omega) ?_
    refine V_aload_n (pc := 51) (i := 0) dX7_addPerson_51 rfl rfl ?_
    refine V_dup (pc := 52) dX7_addPerson_52 rfl ?_
    refine VW_getI (pc := 53) dX7_addPerson_53 fX7_41 (by first | assumption | rfl) rfl ?_
    simp (disch := omega) only [up2_row, up2_col, hn]
    refine V_iconst (pc := 56) (v := 1) dX7_addPerson_56 (by decide) ?_
    refine V_iadd (pc := 57) dX7_addPerson_57 ?_
    refine VW_putI (pc := 58) dX7_addPerson_58 fX7_41 ftX7 (fpI rfl rfl (tyX7_ok 7 (by decide))) (by first | assumption | rfl) rfl (by assumption) ?_
    exact VE_vret (pc := 61) dX7_addPerson_61 rfl rfl
  · exact absurd (by rw [hn]; exact nI_lt (b := 8) h8 (by decide)) c6
-- Rule: an operator, a whole EXPR
def appl (o x y : Int32) : Int32 :=
  if o = 10008 then (if ¬ x = 0 ∨ ¬ y = 0 then 1 else 0) else if o = 10009 then (if ¬ x = 0 ∧ ¬ y = 0 then 1 else 0) else if o = 10010 then (if x < y then 1 else 0) else if o = 10011 then (if x = y then 1 else 0) else
  if o = 10012 then x + y else if o = 10013 then x - y else if o = 10014 then x * y else if y = 0 then 0 else x / y
theorem X4_applied (o x y : Int32) (ho : 10007 < o) : VM G mX4_applied d 0 0 [.int o, .int x, .int y] (xE (some (.int (appl o x y))) h) h := by
  refine VM_start (ls := [some (.int o), some (.int x), some (.int y)]) rfl ?_
  unfold appl
  -- %m X4_applied
  refine V_iload_n (pc := 0) (i := 0) dX4_applied_0 rfl rfl ?_
  by_cases e1 : o = 10008
  · subst e1
    rw [if_pos rfl]
    refine V_tableIn (pc := 1) (off := 43) 44 dX4_applied_1 (by decide) (by decide) (by decide) rfl ?_
    refine V_iload_n (pc := 44) (i := 1) dX4_applied_44 rfl rfl ?_
    refine V_if_ne (pc := 45) 52 dX4_applied_45 rfl (fun c45 => ?_) (fun c45 => ?_)
    · refine V_iconst (pc := 52) (v := 1) dX4_applied_52 (by decide) ?_
      refine V_goto (pc := 53) 57 dX4_applied_53 rfl ?_
      exact VE_iret (pc := 57) dX4_applied_57 rfl (by simp [*]) rfl
    · refine V_iload_n (pc := 48) (i := 2) dX4_applied_48 rfl rfl ?_
      refine V_if_eq (pc := 49) 56 dX4_applied_49 rfl (fun c49 => ?_) (fun c49 => ?_)
      · refine V_iconst (pc := 56) (v := 0) dX4_applied_56 (by decide) ?_
        exact VE_iret (pc := 57) dX4_applied_57 rfl (by simp [*]) rfl
      · refine V_iconst (pc := 52) (v := 1) dX4_applied_52 (by decide) ?_
        refine V_goto (pc := 53) 57 dX4_applied_53 rfl ?_
        exact VE_iret (pc := 57) dX4_applied_57 rfl (by simp [*]) rfl
  rw [if_neg e1]
  by_cases e2 : o = 10009
  · subst e2
    rw [if_pos rfl]
    refine V_tableIn (pc := 1) (off := 57) 58 dX4_applied_1 (by decide) (by decide) (by decide) rfl ?_
    refine V_iload_n (pc := 58) (i := 1) dX4_applied_58 rfl rfl ?_
    refine V_if_eq (pc := 59) 70 dX4_applied_59 rfl (fun c59 => ?_) (fun c59 => ?_)
    · refine V_iconst (pc := 70) (v := 0) dX4_applied_70 (by decide) ?_
      exact VE_iret (pc := 71) dX4_applied_71 rfl (by simp [*]) rfl
    · refine V_iload_n (pc := 62) (i := 2) dX4_applied_62 rfl rfl ?_
      refine V_if_eq (pc := 63) 70 dX4_applied_63 rfl (fun c63 => ?_) (fun c63 => ?_)
      · refine V_iconst (pc := 70) (v := 0) dX4_applied_70 (by decide) ?_
        exact VE_iret (pc := 71) dX4_applied_71 rfl (by simp [*]) rfl
      · refine V_iconst (pc := 66) (v := 1) dX4_applied_66 (by decide) ?_
        refine V_goto (pc := 67) 71 dX4_applied_67 rfl ?_
        exact VE_iret (pc := 71) dX4_applied_71 rfl (by simp [*]) rfl
  rw [if_neg e2]
  by_cases e3 : o = 10010
  · subst e3
    rw [if_pos rfl]
    refine V_tableIn (pc := 1) (off := 71) 72 dX4_applied_1 (by decide) (by decide) (by decide) rfl ?_
    refine V_iload_n (pc := 72) (i := 1) dX4_applied_72 rfl rfl ?_
    refine V_iload_n (pc := 73) (i := 2) dX4_applied_73 rfl rfl ?_
    refine V_icmp_ge (pc := 74) 81 dX4_applied_74 rfl (fun c74 => ?_) (fun c74 => ?_)
    · have c75 : ¬ x < y := Int32.not_lt.mpr c74
      refine V_iconst (pc := 81) (v := 0) dX4_applied_81 (by decide) ?_
      exact VE_iret (pc := 82) dX4_applied_82 rfl (by simp [c75]) rfl
    · have c75 : x < y := Int32.not_le.mp c74
      refine V_iconst (pc := 77) (v := 1) dX4_applied_77 (by decide) ?_
      refine V_goto (pc := 78) 82 dX4_applied_78 rfl ?_
      exact VE_iret (pc := 82) dX4_applied_82 rfl (by simp [c75]) rfl
  rw [if_neg e3]
  by_cases e4 : o = 10011
  · subst e4
    rw [if_pos rfl]
    refine V_tableIn (pc := 1) (off := 82) 83 dX4_applied_1 (by decide) (by decide) (by decide) rfl ?_
    refine V_iload_n (pc := 83) (i := 1) dX4_applied_83 rfl rfl ?_
    refine V_iload_n (pc := 84) (i := 2) dX4_applied_84 rfl rfl ?_
    refine V_icmp_ne (pc := 85) 92 dX4_applied_85 rfl (fun c85 => ?_) (fun c85 => ?_)
    · refine V_iconst (pc := 92) (v := 0) dX4_applied_92 (by decide) ?_
      exact VE_iret (pc := 93) dX4_applied_93 rfl (by simp [*]) rfl
    · refine V_iconst (pc := 88) (v := 1) dX4_applied_88 (by decide) ?_
      refine V_goto (pc := 89) 93 dX4_applied_89 rfl ?_
      exact VE_iret (pc := 93) dX4_applied_93 rfl (by simp [*]) rfl
  rw [if_neg e4]
  by_cases e5 : o = 10012
  · subst e5
    rw [if_pos rfl]
    refine V_tableIn (pc := 1) (off := 93) 94 dX4_applied_1 (by decide) (by decide) (by decide) rfl ?_
    refine V_iload_n (pc := 94) (i := 1) dX4_applied_94 rfl rfl ?_
    refine V_iload_n (pc := 95) (i := 2) dX4_applied_95 rfl rfl ?_
    refine V_iadd (pc := 96) dX4_applied_96 ?_
    exact VE_iret (pc := 97) dX4_applied_97 rfl rfl rfl
  rw [if_neg e5]
  by_cases e6 : o = 10013
  · subst e6
    rw [if_pos rfl]
    refine V_tableIn (pc := 1) (off := 97) 98 dX4_applied_1 (by decide) (by decide) (by decide) rfl ?_
    refine V_iload_n (pc := 98) (i := 1) dX4_applied_98 rfl rfl ?_
    refine V_iload_n (pc := 99) (i := 2) dX4_applied_99 rfl rfl ?_
    refine V_isub (pc := 100) dX4_applied_100 ?_
    exact VE_iret (pc := 101) dX4_applied_101 rfl rfl rfl
  rw [if_neg e6]
  by_cases e7 : o = 10014
  · subst e7
    rw [if_pos rfl]
    refine V_tableIn (pc := 1) (off := 101) 102 dX4_applied_1 (by decide) (by decide) (by decide) rfl ?_
    refine V_iload_n (pc := 102) (i := 1) dX4_applied_102 rfl rfl ?_
    refine V_iload_n (pc := 103) (i := 2) dX4_applied_103 rfl rfl ?_
    refine V_imul (pc := 104) dX4_applied_104 ?_
    exact VE_iret (pc := 105) dX4_applied_105 rfl rfl rfl
  rw [if_neg e7]
  have hout : o.toInt < 10008 ∨ 10014 < o.toInt := by
    have z1 := lv_neT e1 (a := 10008) (by decide)
    have z2 := lv_neT e2 (a := 10009) (by decide)
    have z3 := lv_neT e3 (a := 10010) (by decide)
    have z4 := lv_neT e4 (a := 10011) (by decide)
    have z5 := lv_neT e5 (a := 10012) (by decide)
    have z6 := lv_neT e6 (a := 10013) (by decide)
    have z7 := lv_neT e7 (a := 10014) (by decide)
    omega
  refine V_tableOut (pc := 1) 106 dX4_applied_1 hout rfl ?_
  refine V_iload_n (pc := 106) (i := 2) dX4_applied_106 rfl rfl ?_
  refine V_if_ne (pc := 107) 114 dX4_applied_107 rfl (fun c107 => ?_) (fun c107 => ?_)
  · rw [if_neg c107]
    refine V_iload_n (pc := 114) (i := 1) dX4_applied_114 rfl rfl ?_
    refine V_iload_n (pc := 115) (i := 2) dX4_applied_115 rfl rfl ?_
    refine V_idiv (pc := 116) dX4_applied_116 c107 ?_
    exact VE_iret (pc := 117) dX4_applied_117 rfl rfl rfl
  · rw [if_pos c107]
    refine V_iconst (pc := 110) (v := 0) dX4_applied_110 (by decide) ?_
    refine V_goto (pc := 111) 117 dX4_applied_111 rfl ?_
    exact VE_iret (pc := 117) dX4_applied_117 rfl rfl rfl
/-- an EXPR by the VALUES vl: m codes from i on, n on the stack f -/
def rkF (cd vl : Nat → Int32) : Nat → Nat → Nat → (Nat → Int32) → Int32 × (Nat → Int32)
  | 0, _, n, f => (if n = 1 then f 0 else 0, f)
  | m + 1, i, n, f =>
    if cd i ≤ 10006 then (if 64 ≤ n then (0, f) else rkF cd vl m (i + 1) (n + 1) (upd f n (if cd i ≤ 9999 then cd i else vl (cd i - 10000).toNatClampNeg)))
    else if cd i = 10007 then (if n < 1 then (0, f) else rkF cd vl m (i + 1) n (upd f (n - 1) (if f (n - 1) = 0 then 1 else 0)))
    else if n < 2 then (0, f) else rkF cd vl m (i + 1) (n - 1) (upd f (n - 2) (appl (cd i) (f (n - 2)) (f (n - 1))))
end Sh
