/-! ===== Reader: lines, a text ===== -/
section Rl
variable {G : xG} {d : Nat} {b : Nat} {S T Z : Nat → Nat → Int32} {h0 h : xH}
/-- the reader between lines -/
def PI (Z S : Nat → Nat → Int32) (t : Nat) : Prop := TI S ∧ shC (S 1 1) = t ∧ (∃ n : Nat, n ≤ 8 ∧ S t 7 = nI n) ∧ (∃ n : Nat, n ≤ 12 ∧ S (t + 2) 4 = nI n) ∧ (∃ r : Nat, r ≤ 700 ∧ S (t + 6) 2 = nI r) ∧ ∀ k, k ≠ 1 → k ≠ 2 → (k < t ∨ t + 12 < k) → S k = Z k
theorem PI_or {t : Nat} (x : PI Z S t) : t = 4 ∨ t = 44 := by
  have := shC_or (S 1 1)
  rw [x.2.1] at this
  exact this
/-- where the draft is as it was -/
theorem PI_of {t : Nat} (x : PI Z S t) (h1 : TI T) (h2 : T 1 1 = S 1 1) (h3 : ∀ k, k ≠ 1 → k ≠ 2 → T k = S k) : PI Z T t := by
  have ht := PI_or x
  exact ⟨h1, by rw [h2]; exact x.2.1, by rw [h3 t (by omega) (by omega)]; exact x.2.2.1, by rw [h3 (t + 2) (by omega) (by omega)]; exact x.2.2.2.1, by rw [h3 (t + 6) (by omega) (by omega)]; exact x.2.2.2.2.1, fun k k1 k2 k3 => (h3 k k1 k2).trans (x.2.2.2.2.2 k k1 k2 k3)⟩
theorem PI_adv {t : Nat} (x : PI Z S t) : PI Z (adv S) t := PI_of x (TI_adv x.1).1 (by rw [adv_off (by decide)]) (fun k _ k2 => adv_off k2)
theorem PI_rfs {t : Nat} {k : Int32} (x : PI Z S t) : PI Z (rfs S k) t := PI_of x (TI_of x.1 (rfs_off (by decide))) rfs_1 (fun k k1 _ => rfs_off k1)
theorem PI_nmW {t : Nat} {lo hi : Int32} (x : PI Z S t) : PI Z (nmW S lo hi).2 t := PI_of x (TI_of x.1 (nmW_off (by decide))) nmW_1 (fun k k1 _ => nmW_off k1)
theorem tkW_off {lo hi : Int32} {k : Nat} (h1 : k ≠ 1) (h2 : k ≠ 2) : (tkW S lo hi).2 k = S k := by
  unfold tkW
  split
  · exact nmW_off h1
  · show adv (nmW S lo hi).2 k = _
    rw [adv_off h2, nmW_off h1]
theorem PI_tkW {t : Nat} {lo hi : Int32} (x : PI Z S t) : PI Z (tkW S lo hi).2 t := by
  unfold tkW
  split
  · exact PI_nmW x
  · exact PI_adv (PI_nmW x)
theorem PI_tkS {t : Nat} {c : Int32} (x : PI Z S t) : PI Z (tkS S c).2 t := by
  unfold tkS
  split
  · exact PI_adv x
  · exact PI_rfs x
theorem tkW_v {lo hi : Int32} : (tkW S lo hi).1 = -1 ∨ (¬ (tkW S lo hi).1 < lo ∧ ¬ hi < (tkW S lo hi).1) := by
  unfold tkW
  split
  · rename_i h
    exact Or.inl h
  · rename_i h
    exact Or.inr (nmW_v.resolve_left h).2.2
/-- worth -/
def twS (S : Nat → Nat → Int32) (t : Nat) (q x : Int32) : Nat → Nat → Int32 := up2 (up2 S (t + 1) q.toNatClampNeg x) t 8 (S t 8 ||| 1 <<< (q &&& 31))
def rdW3 (t : Nat) (q : Int32) (ng : Bool) (B : Int32 × (Nat → Nat → Int32)) : Bool × (Nat → Nat → Int32) := if B.1 = -1 then (false, B.2) else tkS (twS B.2 t q (if ng then -B.1 else B.1)) 59
def rdW2 (t : Nat) (A : Int32 × (Nat → Nat → Int32)) : Bool × (Nat → Nat → Int32) := if A.1 = -1 then (false, A.2) else if hasB (A.2 t 8) A.1 then (false, rfs A.2 4) else rdW3 t A.1 (sgn (adv A.2) 45) (tkW (if sgn (adv A.2) 45 then adv (adv A.2) else adv A.2) 0 9)
def rdWorth (t : Nat) (S : Nat → Nat → Int32) : Bool × (Nat → Nat → Int32) := rdW2 t (nmW (adv S) 0 9)
theorem PI_twS {t : Nat} {q x : Int32} (y : PI Z S t) : PI Z (twS S t q x) t := by
  have ht := PI_or y
  obtain ⟨y1, y2, y3, y4, y5, y6⟩ := y
  unfold twS
  refine ⟨TI_of y1 (by rw [up2_row (by omega), up2_row (by omega)]), by rw [up2_row (by omega), up2_row (by omega)]; exact y2, by rw [up2_col (by omega), up2_row (by omega)]; exact y3, by rw [up2_row (by omega), up2_row (by omega)]; exact y4, by rw [up2_row (by omega), up2_row (by omega)]; exact y5, fun k k1 k2 k3 => by rw [up2_row (by omega), up2_row (by omega)]; exact y6 k k1 k2 k3⟩
theorem PI_rdW3 {t : Nat} {q : Int32} {ng : Bool} {B : Int32 × (Nat → Nat → Int32)} (y : PI Z B.2 t) : PI Z (rdW3 t q ng B).2 t := by
  unfold rdW3
  by_cases c : B.1 = -1
  · rw [if_pos c]; exact y
  · rw [if_neg c]; exact PI_tkS (PI_twS y)
theorem PI_rdW2 {t : Nat} {A : Int32 × (Nat → Nat → Int32)} (x1 : PI Z A.2 t) : PI Z (rdW2 t A).2 t := by
  unfold rdW2
  by_cases c1 : A.1 = -1
  · rw [if_pos c1]; exact x1
  · rw [if_neg c1]
    by_cases c2 : hasB (A.2 t 8) A.1 = true
    · rw [if_pos c2]; exact PI_rfs x1
    · rw [if_neg c2]
      refine PI_rdW3 (PI_tkW ?_)
      by_cases c3 : sgn (adv A.2) 45 = true
      · rw [if_pos c3]; exact PI_adv (PI_adv x1)
      · rw [if_neg c3]; exact PI_adv x1
theorem PI_rdWorth {t : Nat} (x : PI Z S t) : PI Z (rdWorth t S).2 t := PI_rdW2 (PI_nmW (PI_adv x))
theorem X3_readWorth {t : Nat} (x : PI Z S t) (hb : gB G ≤ b) (hd : 7 ≤ d) : VM G mX3_readWorth d 0 0 [.ref (b + 1)] (xE (some (.int (b2i (rdWorth t S).1))) (wH G b tbC (rdWorth t S).2 h0)) (wH G b tbC S h0) := by
  have ht := PI_or x
  refine VM_start (ls := [some (.ref (b + 1)), none, none, none]) rfl ?_
  unfold rdWorth
  -- %m X3_readWorth
  refine V_aload_n (pc := 0) (i := 0) dX3_readWorth_0 rfl rfl ?_
  refine VW_getR (pc := 1) dX3_readWorth_1 fX3_12 (by first | assumption | rfl) rfl ?_
  refine V_V0v (pc := 4) dX3_readWorth_4 cX3_83 (by first | assumption | rfl) (X9_adv (d := 5) x.1 hb (by omega)) (Nat.le_of_ble_eq_true rfl) (by omega) (Nat.le_of_ble_eq_true rfl) ?_
  refine V_aload_n (pc := 7) (i := 0) dX3_readWorth_7 rfl rfl ?_
  refine V_iconst (pc := 8) (v := 0) dX3_readWorth_8 (by decide) ?_
  refine V_bipush (pc := 9) (v := 9) dX3_readWorth_9 (by decide) ?_
  refine V_V2i (pc := 11) dX3_readWorth_11 cX3_86 (by first | assumption | rfl) (X3_numberWithin (d := 2) (PI_adv x).1 _ _ hb (by omega)) (Nat.le_of_ble_eq_true rfl) (by omega) (Nat.le_of_ble_eq_true rfl) ?_
  have x1 : PI Z (nmW (adv S) 0 9).2 t := PI_nmW (PI_adv x)
  have v1 := nmW_v (S := adv S) (lo := 0) (hi := 9)
  generalize nmW (adv S) 0 9 = A at x1 v1
  have hS := tbC_shore (A.2 1 1)
  rw [x1.2.1] at hS
  obtain ⟨a0, -⟩ := id hS
  have hsh := x1.2.1
  unfold rdW2
  refine V_istore_n (pc := 14) (i := 1) dX3_readWorth_14 rfl (by decide) rfl ?_
  refine V_iload_n (pc := 15) (i := 1) dX3_readWorth_15 rfl rfl ?_
  refine V_iconst (pc := 16) (v := -1) dX3_readWorth_16 (by decide) ?_
  refine V_icmp_ne (pc := 17) 22 dX3_readWorth_17 rfl (fun c17 => ?_) (fun c17 => ?_)
  · rw [if_neg c17]
    obtain ⟨-, -, v2, v3⟩ := v1.resolve_left c17
    obtain ⟨q, hq, eq⟩ := nI_of2 (M := 9) (n := 9) rfl v2 (Int32.not_lt.mp v3)
    refine V_iload_n (pc := 22) (i := 1) dX3_readWorth_22 rfl rfl ?_
    refine V_aload_n (pc := 23) (i := 0) dX3_readWorth_23 rfl rfl ?_
    refine VW_getWs (pc := 24) dX3_readWorth_24 fX3_21 (by first | assumption | rfl) rfl (by first | assumption | (simp (disch := omega) only [up2_row, up2_col, up2_same, upR_row]; assumption)) ?_
    refine VW_getI (pc := 27) dX3_readWorth_27 fX3_90 (by first | assumption | rfl) rfl ?_
    refine V_SN2i (pc := 30) dX3_readWorth_30 cX3_93 (X11_isIn (d := 0) _ _) (Nat.le_of_ble_eq_true rfl) (by omega) (Nat.le_of_ble_eq_true rfl) ?_
    refine V_if_eq (pc := 33) 42 dX3_readWorth_33 rfl (fun c33 => ?_) (fun c33 => ?_)
    · rw [if_neg (by rw [b2i_0.mp c33]; decide)]
      refine V_aload_n (pc := 42) (i := 0) dX3_readWorth_42 rfl rfl ?_
      refine VW_getR (pc := 43) dX3_readWorth_43 fX3_12 (by first | assumption | rfl) rfl ?_
      refine V_V0v (pc := 46) dX3_readWorth_46 cX3_83 (by first | assumption | rfl) (X9_adv (d := 5) x1.1 hb (by omega)) (Nat.le_of_ble_eq_true rfl) (by omega) (Nat.le_of_ble_eq_true rfl) ?_
      refine V_aload_n (pc := 49) (i := 0) dX3_readWorth_49 rfl rfl ?_
      refine VW_getR (pc := 50) dX3_readWorth_50 fX3_12 (by first | assumption | rfl) rfl ?_
      refine V_bipush (pc := 53) (v := 45) dX3_readWorth_53 (by decide) ?_
      refine V_V1i (pc := 55) dX3_readWorth_55 cX3_97 (by first | assumption | rfl) (X9_signIs (d := 0) _) (Nat.le_of_ble_eq_true rfl) (by omega) (Nat.le_of_ble_eq_true rfl) ?_
      have x2 := PI_adv x1
      have fin : ∀ (B : Int32 × (Nat → Nat → Int32)), PI Z B.2 t → V G mX3_readWorth d 0 0 (xE (some (.int (b2i (rdW3 t A.1 (sgn (adv A.2) 45) B).1))) (wH G b tbC (rdW3 t A.1 (sgn (adv A.2) 45) B).2 h0)) 77 [some (.ref (b + 1)), some (.int A.1), some (.int (b2i (sgn (adv A.2) 45))), none] [.int B.1] (wH G b tbC B.2 h0) := by
        intro B y
        unfold rdW3
        have hS := tbC_shore (B.2 1 1)
        rw [y.2.1] at hS
        obtain ⟨a0, -⟩ := id hS
        have hsh := y.2.1
        have f2 : ∀ v : Int32, V G mX3_readWorth d 0 0 (xE (some (.int (b2i (tkS (twS B.2 t A.1 v) 59).1))) (wH G b tbC (tkS (twS B.2 t A.1 v) 59).2 h0)) 100 [some (.ref (b + 1)), some (.int A.1), some (.int (b2i (sgn (adv A.2) 45))), none] [.int v, .int A.1, .ref (b + t)] (wH G b tbC B.2 h0) := by
          intro v
          have et : twS B.2 t A.1 v = up2 (up2 B.2 (t + 1) q v) t 8 (B.2 t 8 ||| 1 <<< (nI q &&& 31)) := by rw [twS, eq, nI_clamp (by omega)]
          have et2 : twS B.2 t A.1 v = up2 (up2 B.2 (t + 1) q v) t 8 (B.2 t 8 ||| 1 <<< (A.1 &&& 31)) := by rw [et, eq]
          rw [et, eq]
          refine V_V2v (pc := 100) dX3_readWorth_100 cX3_104 (by first | assumption | rfl) (X7_tellWorth (d := 0) hS (by omega) hb _) (Nat.le_of_ble_eq_true rfl) (by omega) (Nat.le_of_ble_eq_true rfl) ?_
          rw [← eq, ← et2]
          refine V_aload_n (pc := 103) (i := 0) dX3_readWorth_103 rfl rfl ?_
          refine V_bipush (pc := 104) (v := 59) dX3_readWorth_104 (by decide) ?_
          refine V_V1i (pc := 106) dX3_readWorth_106 cX3_108 (by first | assumption | rfl) (X3_takeSign (d := 6) (PI_twS y).1 _ hb (by omega)) (Nat.le_of_ble_eq_true rfl) (by omega) (Nat.le_of_ble_eq_true rfl) ?_
          exact VE_zret (pc := 109) dX3_readWorth_109 rfl (b2i_01 _) rfl rfl
        refine V_istore_n (pc := 77) (i := 3) dX3_readWorth_77 rfl (by decide) rfl ?_
        refine V_iload_n (pc := 78) (i := 3) dX3_readWorth_78 rfl rfl ?_
        refine V_iconst (pc := 79) (v := -1) dX3_readWorth_79 (by decide) ?_
        refine V_icmp_ne (pc := 80) 85 dX3_readWorth_80 rfl (fun c80 => ?_) (fun c80 => ?_)
        · rw [if_neg c80]
          refine V_aload_n (pc := 85) (i := 0) dX3_readWorth_85 rfl rfl ?_
          refine VW_getWs (pc := 86) dX3_readWorth_86 fX3_21 (by first | assumption | rfl) rfl (by first | assumption | (simp (disch := omega) only [up2_row, up2_col, up2_same, upR_row]; assumption)) ?_
          refine V_iload_n (pc := 89) (i := 1) dX3_readWorth_89 rfl rfl ?_
          refine V_iload_n (pc := 90) (i := 2) dX3_readWorth_90 rfl rfl ?_
          refine V_if_eq (pc := 91) 99 dX3_readWorth_91 rfl (fun c91 => ?_) (fun c91 => ?_)
          · rw [if_neg (by rw [b2i_0.mp c91]; decide)]
            refine V_iload_n (pc := 99) (i := 3) dX3_readWorth_99 rfl rfl ?_
            exact V_forget 3 (f2 _)
          · rw [if_pos (b2i_n0.mp c91)]
            refine V_iload_n (pc := 94) (i := 3) dX3_readWorth_94 rfl rfl ?_
            refine V_ineg (pc := 95) dX3_readWorth_95 ?_
            refine V_goto (pc := 96) 100 dX3_readWorth_96 rfl ?_
            exact V_forget 3 (f2 _)
        · rw [if_pos c80]
          refine V_iconst (pc := 83) (v := 0) dX3_readWorth_83 (by decide) ?_
          exact VE_zret (pc := 84) dX3_readWorth_84 rfl (Or.inl rfl) rfl rfl
      refine V_istore_n (pc := 58) (i := 2) dX3_readWorth_58 rfl (by decide) rfl ?_
      refine V_iload_n (pc := 59) (i := 2) dX3_readWorth_59 rfl rfl ?_
      refine V_if_eq (pc := 60) 70 dX3_readWorth_60 rfl (fun c60 => ?_) (fun c60 => ?_)
      · rw [if_neg (by rw [b2i_0.mp c60]; decide)]
        refine V_aload_n (pc := 70) (i := 0) dX3_readWorth_70 rfl rfl ?_
        refine V_iconst (pc := 71) (v := 0) dX3_readWorth_71 (by decide) ?_
        refine V_bipush (pc := 72) (v := 9) dX3_readWorth_72 (by decide) ?_
        refine V_V2i (pc := 74) dX3_readWorth_74 cX3_101 (by first | assumption | rfl) (X3_takeWithin (d := 6) x2.1 _ _ hb (by omega)) (Nat.le_of_ble_eq_true rfl) (by omega) (Nat.le_of_ble_eq_true rfl) ?_
        exact fin _ (PI_tkW x2)
      · rw [if_pos (b2i_n0.mp c60)]
        refine V_aload_n (pc := 63) (i := 0) dX3_readWorth_63 rfl rfl ?_
        refine VW_getR (pc := 64) dX3_readWorth_64 fX3_12 (by first | assumption | rfl) rfl ?_
        refine V_V0v (pc := 67) dX3_readWorth_67 cX3_83 (by first | assumption | rfl) (X9_adv (d := 5) x2.1 hb (by omega)) (Nat.le_of_ble_eq_true rfl) (by omega) (Nat.le_of_ble_eq_true rfl) ?_
        refine V_aload_n (pc := 70) (i := 0) dX3_readWorth_70 rfl rfl ?_
        refine V_iconst (pc := 71) (v := 0) dX3_readWorth_71 (by decide) ?_
        refine V_bipush (pc := 72) (v := 9) dX3_readWorth_72 (by decide) ?_
        refine V_V2i (pc := 74) dX3_readWorth_74 cX3_101 (by first | assumption | rfl) (X3_takeWithin (d := 6) (PI_adv x2).1 _ _ hb (by omega)) (Nat.le_of_ble_eq_true rfl) (by omega) (Nat.le_of_ble_eq_true rfl) ?_
        exact fin _ (PI_tkW (PI_adv x2))
    · rw [if_pos (b2i_n0.mp c33)]
      refine V_aload_n (pc := 36) (i := 0) dX3_readWorth_36 rfl rfl ?_
      refine V_iconst (pc := 37) (v := 4) dX3_readWorth_37 (by decide) ?_
      refine V_V1i (pc := 38) dX3_readWorth_38 cX3_79 (by first | assumption | rfl) (X3_refuse (d := 0) _ hb) (Nat.le_of_ble_eq_true rfl) (by omega) (Nat.le_of_ble_eq_true rfl) ?_
      exact VE_zret (pc := 41) dX3_readWorth_41 rfl (Or.inl rfl) rfl rfl
  · rw [if_pos c17]
    refine V_iconst (pc := 20) (v := 0) dX3_readWorth_20 (by decide) ?_
    exact VE_zret (pc := 21) dX3_readWorth_21 rfl (Or.inl rfl) rfl rfl
/-- one more NUMBER, if there was one before -/
def thn (A : Int32 × (Nat → Nat → Int32)) (lo hi : Int32) : Int32 × (Nat → Nat → Int32) := if A.1 = -1 then (-1, A.2) else tkW A.2 lo hi
theorem PI_thn {t : Nat} {lo hi : Int32} {A : Int32 × (Nat → Nat → Int32)} (x : PI Z A.2 t) : PI Z (thn A lo hi).2 t := by
  unfold thn
  split
  · exact x
  · exact PI_tkW x
theorem thn_off {lo hi : Int32} {k : Nat} {A : Int32 × (Nat → Nat → Int32)} (h1 : k ≠ 1) (h2 : k ≠ 2) : (thn A lo hi).2 k = A.2 k := by
  unfold thn
  split
  · rfl
  · exact tkW_off h1 h2
def rdP4 (t : Nat) (x y z : Int32) (D : Int32 × (Nat → Nat → Int32)) : Bool × (Nat → Nat → Int32) := if D.1 = -1 then (false, D.2) else tkS (shAdd D.2 t (D.2 t 7).toNatClampNeg x y z D.1) 59
def rdP2 (t : Nat) (A B C : Int32 × (Nat → Nat → Int32)) : Bool × (Nat → Nat → Int32) := rdP4 t A.1 B.1 C.1 (thn C 0 99)
def rdP1 (t : Nat) (A : Int32 × (Nat → Nat → Int32)) : Bool × (Nat → Nat → Int32) := rdP2 t A (thn A 0 9) (thn (thn A 0 9) 0 9)
def rdPerson (t : Nat) (S : Nat → Nat → Int32) : Bool × (Nat → Nat → Int32) := if S t 7 < 8 then rdP1 t (tkW (adv S) 0 1023) else (false, rfs S 2)
theorem PI_shAdd {t n : Nat} {x y z u : Int32} (p : PI Z S t) (hn : n < 8) : PI Z (shAdd S t n x y z u) t := by
  have ht := PI_or p
  obtain ⟨y1, y2, y3, y4, y5, y6⟩ := p
  unfold shAdd
  refine ⟨TI_of y1 (by simp (disch := omega) only [up2_row]), by simp (disch := omega) only [up2_row]; exact y2, ⟨n + 1, by omega, by rw [up2_same, nI_1]⟩, by simp (disch := omega) only [up2_row]; exact y4, by simp (disch := omega) only [up2_row]; exact y5, fun k k1 k2 k3 => by simp (disch := omega) only [up2_row]; exact y6 k k1 k2 k3⟩
theorem PI_rdP4 {t : Nat} {x y z : Int32} {D : Int32 × (Nat → Nat → Int32)} (p : PI Z D.2 t) (h8 : (D.2 t 7).toNatClampNeg < 8) : PI Z (rdP4 t x y z D).2 t := by
  unfold rdP4
  by_cases c : D.1 = -1
  · rw [if_pos c]; exact p
  · rw [if_neg c]; exact PI_tkS (PI_shAdd p h8)
theorem PI_rdP1 {t : Nat} {A : Int32 × (Nat → Nat → Int32)} (p : PI Z A.2 t) (h8 : (A.2 t 7).toNatClampNeg < 8) : PI Z (rdP1 t A).2 t := by
  have ht := PI_or p
  unfold rdP1 rdP2
  refine PI_rdP4 (PI_thn (PI_thn (PI_thn p))) ?_
  rw [thn_off (by omega) (by omega), thn_off (by omega) (by omega), thn_off (by omega) (by omega)]
  exact h8
theorem PI_rdPerson {t : Nat} (x : PI Z S t) : PI Z (rdPerson t S).2 t := by
  unfold rdPerson
  have ht := PI_or x
  by_cases h8 : S t 7 < 8
  · rw [if_pos h8]
    obtain ⟨n, hn, en⟩ := x.2.2.1
    have hn8 : n < 8 := by rw [en] at h8; exact (nI_ltI (b := 8) (by omega) (by decide)).mp h8
    refine PI_rdP1 (PI_tkW (PI_adv x)) ?_
    rw [tkW_off (by omega) (by omega), adv_off (by omega), en, nI_clamp (by omega)]
    exact hn8
  · rw [if_neg h8]; exact PI_rfs x
theorem X3_readPerson {t : Nat} (x : PI Z S t) (hb : gB G ≤ b) (hd : 7 ≤ d) : VM G mX3_readPerson d 0 0 [.ref (b + 1)] (xE (some (.int (b2i (rdPerson t S).1))) (wH G b tbC (rdPerson t S).2 h0)) (wH G b tbC S h0) := by
  have ht := PI_or x
  obtain ⟨n, hn, en⟩ := x.2.2.1
  have hS := tbC_shore (S 1 1)
  rw [x.2.1] at hS
  obtain ⟨a0, -⟩ := id hS
  have hsh := x.2.1
  refine VM_start (ls := [some (.ref (b + 1)), none, none, none, none]) rfl ?_
  unfold rdPerson
  -- %m X3_readPerson
  refine V_aload_n (pc := 0) (i := 0) dX3_readPerson_0 rfl rfl ?_
  refine VW_getWs (pc := 1) dX3_readPerson_1 fX3_21 (by first | assumption | rfl) rfl (by first | assumption | (simp (disch := omega) only [up2_row, up2_col, up2_same, upR_row]; assumption)) ?_
  refine VW_getI (pc := 4) dX3_readPerson_4 fX3_111 (by first | assumption | rfl) rfl ?_
  refine V_bipush (pc := 7) (v := 8) dX3_readPerson_7 (by decide) ?_
  refine V_icmp_lt (pc := 9) 18 dX3_readPerson_9 rfl (fun c9 => ?_) (fun c9 => ?_)
  · rw [if_pos c9]
    have hn8 : n < 8 := by rw [en] at c9; exact (nI_ltI (b := 8) (by omega) (by decide)).mp c9
    have j84 : ∀ (u v w : Int32) (D : Int32 × (Nat → Nat → Int32)), PI Z D.2 t → D.2 t 7 = nI n → V G mX3_readPerson d 0 0 (xE (some (.int (b2i (rdP4 t u v w D).1))) (wH G b tbC (rdP4 t u v w D).2 h0)) 84 [some (.ref (b + 1)), some (.int u), some (.int v), some (.int w), none] [.int D.1] (wH G b tbC D.2 h0) := by
      intro u v w D y e7
      have hS := tbC_shore (D.2 1 1)
      rw [y.2.1] at hS
      obtain ⟨a0, -⟩ := id hS
      have hsh := y.2.1
      unfold rdP4
      rw [e7, nI_clamp (by omega)]
      refine V_istore (pc := 84) dX3_readPerson_84 (by decide) rfl ?_
      refine V_iload (pc := 86) dX3_readPerson_86 rfl ?_
      refine V_iconst (pc := 88) (v := -1) dX3_readPerson_88 (by decide) ?_
      refine V_icmp_ne (pc := 89) 94 dX3_readPerson_89 rfl (fun c89 => ?_) (fun c89 => ?_)
      · rw [if_neg c89]
        refine V_aload_n (pc := 94) (i := 0) dX3_readPerson_94 rfl rfl ?_
        refine VW_getWs (pc := 95) dX3_readPerson_95 fX3_21 (by first | assumption | rfl) rfl (by first | assumption | (simp (disch := omega) only [up2_row, up2_col, up2_same, upR_row]; assumption)) ?_
        refine V_iload_n (pc := 98) (i := 1) dX3_readPerson_98 rfl rfl ?_
        refine V_iload_n (pc := 99) (i := 2) dX3_readPerson_99 rfl rfl ?_
        refine V_iload_n (pc := 100) (i := 3) dX3_readPerson_100 rfl rfl ?_
        refine V_iload (pc := 101) dX3_readPerson_101 rfl ?_
        refine V_V4v (pc := 103) dX3_readPerson_103 cX3_114 (by first | assumption | rfl) (X7_addPerson (n := n) (d := 0) hS e7 hn8 hb _ _ _ _) (Nat.le_of_ble_eq_true rfl) (by omega) (Nat.le_of_ble_eq_true rfl) ?_
        refine V_aload_n (pc := 106) (i := 0) dX3_readPerson_106 rfl rfl ?_
        refine V_bipush (pc := 107) (v := 59) dX3_readPerson_107 (by decide) ?_
        refine V_V1i (pc := 109) dX3_readPerson_109 cX3_108 (by first | assumption | rfl) (X3_takeSign (d := 6) (PI_shAdd y hn8).1 _ hb (by omega)) (Nat.le_of_ble_eq_true rfl) (by omega) (Nat.le_of_ble_eq_true rfl) ?_
        exact VE_zret (pc := 112) dX3_readPerson_112 rfl (b2i_01 _) rfl rfl
      · rw [if_pos c89]
        refine V_iconst (pc := 92) (v := 0) dX3_readPerson_92 (by decide) ?_
        exact VE_zret (pc := 93) dX3_readPerson_93 rfl (Or.inl rfl) rfl rfl
    have j67 : ∀ (u v : Int32) (C : Int32 × (Nat → Nat → Int32)), PI Z C.2 t → C.2 t 7 = nI n → V G mX3_readPerson d 0 0 (xE (some (.int (b2i (rdP4 t u v C.1 (thn C 0 99)).1))) (wH G b tbC (rdP4 t u v C.1 (thn C 0 99)).2 h0)) 67 [some (.ref (b + 1)), some (.int u), some (.int v), none, none] [.int C.1] (wH G b tbC C.2 h0) := by
      intro u v C y e7
      refine V_istore_n (pc := 67) (i := 3) dX3_readPerson_67 rfl (by decide) rfl ?_
      refine V_iload_n (pc := 68) (i := 3) dX3_readPerson_68 rfl rfl ?_
      refine V_iconst (pc := 69) (v := -1) dX3_readPerson_69 (by decide) ?_
      refine V_icmp_ne (pc := 70) 77 dX3_readPerson_70 rfl (fun c70 => ?_) (fun c70 => ?_)
      · have e : thn C 0 99 = tkW C.2 0 99 := by rw [thn, if_neg c70]
        rw [e]
        refine V_aload_n (pc := 77) (i := 0) dX3_readPerson_77 rfl rfl ?_
        refine V_iconst (pc := 78) (v := 0) dX3_readPerson_78 (by decide) ?_
        refine V_bipush (pc := 79) (v := 99) dX3_readPerson_79 (by decide) ?_
        refine V_V2i (pc := 81) dX3_readPerson_81 cX3_101 (by first | assumption | rfl) (X3_takeWithin (d := 6) y.1 _ _ hb (by omega)) (Nat.le_of_ble_eq_true rfl) (by omega) (Nat.le_of_ble_eq_true rfl) ?_
        exact j84 u v C.1 _ (PI_tkW y) (by rw [tkW_off (by omega) (by omega)]; exact e7)
      · have e : thn C 0 99 = (-1, C.2) := by rw [thn, if_pos c70]
        rw [e]
        refine V_iconst (pc := 73) (v := -1) dX3_readPerson_73 (by decide) ?_
        refine V_goto (pc := 74) 84 dX3_readPerson_74 rfl ?_
        exact j84 u v C.1 (-1, C.2) y e7
    have j50 : ∀ (u : Int32) (B : Int32 × (Nat → Nat → Int32)), PI Z B.2 t → B.2 t 7 = nI n → V G mX3_readPerson d 0 0 (xE (some (.int (b2i (rdP4 t u B.1 (thn B 0 9).1 (thn (thn B 0 9) 0 99)).1))) (wH G b tbC (rdP4 t u B.1 (thn B 0 9).1 (thn (thn B 0 9) 0 99)).2 h0)) 50 [some (.ref (b + 1)), some (.int u), none, none, none] [.int B.1] (wH G b tbC B.2 h0) := by
      intro u B y e7
      refine V_istore_n (pc := 50) (i := 2) dX3_readPerson_50 rfl (by decide) rfl ?_
      refine V_iload_n (pc := 51) (i := 2) dX3_readPerson_51 rfl rfl ?_
      refine V_iconst (pc := 52) (v := -1) dX3_readPerson_52 (by decide) ?_
      refine V_icmp_ne (pc := 53) 60 dX3_readPerson_53 rfl (fun c53 => ?_) (fun c53 => ?_)
      · have e : thn B 0 9 = tkW B.2 0 9 := by rw [thn, if_neg c53]
        rw [e]
        refine V_aload_n (pc := 60) (i := 0) dX3_readPerson_60 rfl rfl ?_
        refine V_iconst (pc := 61) (v := 0) dX3_readPerson_61 (by decide) ?_
        refine V_bipush (pc := 62) (v := 9) dX3_readPerson_62 (by decide) ?_
        refine V_V2i (pc := 64) dX3_readPerson_64 cX3_101 (by first | assumption | rfl) (X3_takeWithin (d := 6) y.1 _ _ hb (by omega)) (Nat.le_of_ble_eq_true rfl) (by omega) (Nat.le_of_ble_eq_true rfl) ?_
        exact j67 u B.1 _ (PI_tkW y) (by rw [tkW_off (by omega) (by omega)]; exact e7)
      · have e : thn B 0 9 = (-1, B.2) := by rw [thn, if_pos c53]
        rw [e]
        refine V_iconst (pc := 56) (v := -1) dX3_readPerson_56 (by decide) ?_
        refine V_goto (pc := 57) 67 dX3_readPerson_57 rfl ?_
        exact j67 u B.1 (-1, B.2) y e7
    refine V_aload_n (pc := 18) (i := 0) dX3_readPerson_18 rfl rfl ?_
    refine VW_getR (pc := 19) dX3_readPerson_19 fX3_12 (by first | assumption | rfl) rfl ?_
    refine V_V0v (pc := 22) dX3_readPerson_22 cX3_83 (by first | assumption | rfl) (X9_adv (d := 5) x.1 hb (by omega)) (Nat.le_of_ble_eq_true rfl) (by omega) (Nat.le_of_ble_eq_true rfl) ?_
    refine V_aload_n (pc := 25) (i := 0) dX3_readPerson_25 rfl rfl ?_
    refine V_iconst (pc := 26) (v := 0) dX3_readPerson_26 (by decide) ?_
    refine V_sipush (pc := 27) (v := 1023) dX3_readPerson_27 (by decide) ?_
    refine V_V2i (pc := 30) dX3_readPerson_30 cX3_101 (by first | assumption | rfl) (X3_takeWithin (d := 6) (PI_adv x).1 _ _ hb (by omega)) (Nat.le_of_ble_eq_true rfl) (by omega) (Nat.le_of_ble_eq_true rfl) ?_
    have x1 : PI Z (tkW (adv S) 0 1023).2 t := PI_tkW (PI_adv x)
    have e7 : (tkW (adv S) 0 1023).2 t 7 = nI n := by rw [tkW_off (by omega) (by omega), adv_off (by omega)]; exact en
    generalize tkW (adv S) 0 1023 = A at x1 e7
    unfold rdP1 rdP2
    refine V_istore_n (pc := 33) (i := 1) dX3_readPerson_33 rfl (by decide) rfl ?_
    refine V_iload_n (pc := 34) (i := 1) dX3_readPerson_34 rfl rfl ?_
    refine V_iconst (pc := 35) (v := -1) dX3_readPerson_35 (by decide) ?_
    refine V_icmp_ne (pc := 36) 43 dX3_readPerson_36 rfl (fun c36 => ?_) (fun c36 => ?_)
    · have e : thn A 0 9 = tkW A.2 0 9 := by rw [thn, if_neg c36]
      rw [e]
      refine V_aload_n (pc := 43) (i := 0) dX3_readPerson_43 rfl rfl ?_
      refine V_iconst (pc := 44) (v := 0) dX3_readPerson_44 (by decide) ?_
      refine V_bipush (pc := 45) (v := 9) dX3_readPerson_45 (by decide) ?_
      refine V_V2i (pc := 47) dX3_readPerson_47 cX3_101 (by first | assumption | rfl) (X3_takeWithin (d := 6) x1.1 _ _ hb (by omega)) (Nat.le_of_ble_eq_true rfl) (by omega) (Nat.le_of_ble_eq_true rfl) ?_
      exact j50 A.1 _ (PI_tkW x1) (by rw [tkW_off (by omega) (by omega)]; exact e7)
    · have e : thn A 0 9 = (-1, A.2) := by rw [thn, if_pos c36]
      rw [e]
      refine V_iconst (pc := 39) (v := -1) dX3_readPerson_39 (by decide) ?_
      refine V_goto (pc := 40) 50 dX3_readPerson_40 rfl ?_
      exact j50 A.1 (-1, A.2) x1 e7
  · rw [if_neg c9]
    refine V_aload_n (pc := 12) (i := 0) dX3_readPerson_12 rfl rfl ?_
    refine V_iconst (pc := 13) (v := 2) dX3_readPerson_13 (by decide) ?_
    refine V_V1i (pc := 14) dX3_readPerson_14 cX3_79 (by first | assumption | rfl) (X3_refuse (d := 0) _ hb) (Nat.le_of_ble_eq_true rfl) (by omega) (Nat.le_of_ble_eq_true rfl) ?_
    exact VE_zret (pc := 17) dX3_readPerson_17 rfl (Or.inl rfl) rfl rfl
def rdI3 (t : Nat) (un x y : Int32) (D : Int32 × (Nat → Nat → Int32)) : Bool × (Nat → Nat → Int32) := if D.1 = -1 then (false, D.2) else tkS (ifsAdd D.2 (t + 2) (D.2 (t + 2) 4).toNatClampNeg x y D.1 un) 59
def rdI1 (t : Nat) (un : Int32) (A : Int32 × (Nat → Nat → Int32)) : Bool × (Nat → Nat → Int32) := rdI3 t un A.1 (thn A 0 1023).1 (thn (thn A 0 1023) 0 9)
def rdIf (t : Nat) (un : Int32) (S : Nat → Nat → Int32) : Bool × (Nat → Nat → Int32) := if S (t + 2) 4 < 12 then rdI1 t un (tkW (adv S) 0 1023) else (false, rfs S 2)
theorem PI_ifsAdd {t n : Nat} {x y z u : Int32} (p : PI Z S t) (hn : n < 12) : PI Z (ifsAdd S (t + 2) n x y z u) t := by
  have ht := PI_or p
  obtain ⟨y1, y2, y3, y4, y5, y6⟩ := p
  unfold ifsAdd
  refine ⟨TI_of y1 (by simp (disch := omega) only [up2_row]), by simp (disch := omega) only [up2_row]; exact y2, by simp (disch := omega) only [up2_row]; exact y3, ⟨n + 1, by omega, by rw [up2_same, nI_1]⟩, by simp (disch := omega) only [up2_row]; exact y5, fun k k1 k2 k3 => by simp (disch := omega) only [up2_row]; exact y6 k k1 k2 k3⟩
theorem PI_rdI3 {t : Nat} {un x y : Int32} {D : Int32 × (Nat → Nat → Int32)} (p : PI Z D.2 t) (h8 : (D.2 (t + 2) 4).toNatClampNeg < 12) : PI Z (rdI3 t un x y D).2 t := by
  unfold rdI3
  by_cases c : D.1 = -1
  · rw [if_pos c]; exact p
  · rw [if_neg c]; exact PI_tkS (PI_ifsAdd p h8)
theorem PI_rdIf {t : Nat} {un : Int32} (x : PI Z S t) : PI Z (rdIf t un S).2 t := by
  unfold rdIf
  have ht := PI_or x
  by_cases h8 : S (t + 2) 4 < 12
  · rw [if_pos h8]
    obtain ⟨n, hn, en⟩ := x.2.2.2.1
    have hn8 : n < 12 := by rw [en] at h8; exact (nI_ltI (b := 12) (by omega) (by decide)).mp h8
    refine PI_rdI3 (PI_thn (PI_thn (PI_tkW (PI_adv x)))) ?_
    rw [thn_off (by omega) (by omega), thn_off (by omega) (by omega), tkW_off (by omega) (by omega), adv_off (by omega), en, nI_clamp (by omega)]
    exact hn8
  · rw [if_neg h8]; exact PI_rfs x
theorem X3_readIf {t : Nat} (un : Int32) (x : PI Z S t) (hb : gB G ≤ b) (hd : 7 ≤ d) : VM G mX3_readIf d 0 0 [.ref (b + 1), .int un] (xE (some (.int (b2i (rdIf t un S).1))) (wH G b tbC (rdIf t un S).2 h0)) (wH G b tbC S h0) := by
  have ht := PI_or x
  obtain ⟨n, hn, en⟩ := x.2.2.2.1
  have hS := tbC_shore (S 1 1)
  rw [x.2.1] at hS
  obtain ⟨a0, a1, ⟨i0, -⟩, -⟩ := id hS
  have hsh := x.2.1
  refine VM_start (ls := [some (.ref (b + 1)), some (.int un), none, none, none]) rfl ?_
  unfold rdIf
  -- %m X3_readIf
  refine V_aload_n (pc := 0) (i := 0) dX3_readIf_0 rfl rfl ?_
  refine VW_getWs (pc := 1) dX3_readIf_1 fX3_21 (by first | assumption | rfl) rfl (by first | assumption | (simp (disch := omega) only [up2_row, up2_col, up2_same, upR_row]; assumption)) ?_
  refine VW_getR (pc := 4) dX3_readIf_4 fX3_118 (by first | assumption | rfl) rfl ?_
  refine VW_getI (pc := 7) dX3_readIf_7 fX3_122 (by first | assumption | rfl) rfl ?_
  refine V_bipush (pc := 10) (v := 12) dX3_readIf_10 (by decide) ?_
  refine V_icmp_lt (pc := 12) 21 dX3_readIf_12 rfl (fun c12 => ?_) (fun c12 => ?_)
  · rw [if_pos c12]
    have hn8 : n < 12 := by rw [en] at c12; exact (nI_ltI (b := 12) (by omega) (by decide)).mp c12
    have j71 : ∀ (u v : Int32) (D : Int32 × (Nat → Nat → Int32)), PI Z D.2 t → D.2 (t + 2) 4 = nI n → V G mX3_readIf d 0 0 (xE (some (.int (b2i (rdI3 t un u v D).1))) (wH G b tbC (rdI3 t un u v D).2 h0)) 71 [some (.ref (b + 1)), some (.int un), some (.int u), some (.int v), none] [.int D.1] (wH G b tbC D.2 h0) := by
      intro u v D y e7
      have hS := tbC_shore (D.2 1 1)
      rw [y.2.1] at hS
      obtain ⟨a0, a1, a2, -⟩ := id hS
      obtain ⟨i0, -⟩ := id a2
      have hsh := y.2.1
      unfold rdI3
      rw [e7, nI_clamp (by omega)]
      refine V_istore (pc := 71) dX3_readIf_71 (by decide) rfl ?_
      refine V_iload (pc := 73) dX3_readIf_73 rfl ?_
      refine V_iconst (pc := 75) (v := -1) dX3_readIf_75 (by decide) ?_
      refine V_icmp_ne (pc := 76) 81 dX3_readIf_76 rfl (fun c76 => ?_) (fun c76 => ?_)
      · rw [if_neg c76]
        refine V_aload_n (pc := 81) (i := 0) dX3_readIf_81 rfl rfl ?_
        refine VW_getWs (pc := 82) dX3_readIf_82 fX3_21 (by first | assumption | rfl) rfl (by first | assumption | (simp (disch := omega) only [up2_row, up2_col, up2_same, upR_row]; assumption)) ?_
        refine VW_getR (pc := 85) dX3_readIf_85 fX3_118 (by first | assumption | rfl) rfl ?_
        refine V_iload_n (pc := 88) (i := 2) dX3_readIf_88 rfl rfl ?_
        refine V_iload_n (pc := 89) (i := 3) dX3_readIf_89 rfl rfl ?_
        refine V_iload (pc := 90) dX3_readIf_90 rfl ?_
        refine V_iload_n (pc := 92) (i := 1) dX3_readIf_92 rfl rfl ?_
        refine V_V4v (pc := 93) dX3_readIf_93 cX3_127 (by first | assumption | rfl) (X1_add (n := n) (d := 0) a2 e7 hn8 hb _ _ _ _) (Nat.le_of_ble_eq_true rfl) (by omega) (Nat.le_of_ble_eq_true rfl) ?_
        refine V_aload_n (pc := 96) (i := 0) dX3_readIf_96 rfl rfl ?_
        refine V_bipush (pc := 97) (v := 59) dX3_readIf_97 (by decide) ?_
        refine V_V1i (pc := 99) dX3_readIf_99 cX3_108 (by first | assumption | rfl) (X3_takeSign (d := 6) (PI_ifsAdd y hn8).1 _ hb (by omega)) (Nat.le_of_ble_eq_true rfl) (by omega) (Nat.le_of_ble_eq_true rfl) ?_
        exact VE_zret (pc := 102) dX3_readIf_102 rfl (b2i_01 _) rfl rfl
      · rw [if_pos c76]
        refine V_iconst (pc := 79) (v := 0) dX3_readIf_79 (by decide) ?_
        exact VE_zret (pc := 80) dX3_readIf_80 rfl (Or.inl rfl) rfl rfl
    have j54 : ∀ (u : Int32) (B : Int32 × (Nat → Nat → Int32)), PI Z B.2 t → B.2 (t + 2) 4 = nI n → V G mX3_readIf d 0 0 (xE (some (.int (b2i (rdI3 t un u B.1 (thn B 0 9)).1))) (wH G b tbC (rdI3 t un u B.1 (thn B 0 9)).2 h0)) 54 [some (.ref (b + 1)), some (.int un), some (.int u), none, none] [.int B.1] (wH G b tbC B.2 h0) := by
      intro u B y e7
      refine V_istore_n (pc := 54) (i := 3) dX3_readIf_54 rfl (by decide) rfl ?_
      refine V_iload_n (pc := 55) (i := 3) dX3_readIf_55 rfl rfl ?_
      refine V_iconst (pc := 56) (v := -1) dX3_readIf_56 (by decide) ?_
      refine V_icmp_ne (pc := 57) 64 dX3_readIf_57 rfl (fun c57 => ?_) (fun c57 => ?_)
      · have e : thn B 0 9 = tkW B.2 0 9 := by rw [thn, if_neg c57]
        rw [e]
        refine V_aload_n (pc := 64) (i := 0) dX3_readIf_64 rfl rfl ?_
        refine V_iconst (pc := 65) (v := 0) dX3_readIf_65 (by decide) ?_
        refine V_bipush (pc := 66) (v := 9) dX3_readIf_66 (by decide) ?_
        refine V_V2i (pc := 68) dX3_readIf_68 cX3_101 (by first | assumption | rfl) (X3_takeWithin (d := 6) y.1 _ _ hb (by omega)) (Nat.le_of_ble_eq_true rfl) (by omega) (Nat.le_of_ble_eq_true rfl) ?_
        exact j71 u B.1 _ (PI_tkW y) (by rw [tkW_off (by omega) (by omega)]; exact e7)
      · have e : thn B 0 9 = (-1, B.2) := by rw [thn, if_pos c57]
        rw [e]
        refine V_iconst (pc := 60) (v := -1) dX3_readIf_60 (by decide) ?_
        refine V_goto (pc := 61) 71 dX3_readIf_61 rfl ?_
        exact j71 u B.1 (-1, B.2) y e7
    refine V_aload_n (pc := 21) (i := 0) dX3_readIf_21 rfl rfl ?_
    refine VW_getR (pc := 22) dX3_readIf_22 fX3_12 (by first | assumption | rfl) rfl ?_
    refine V_V0v (pc := 25) dX3_readIf_25 cX3_83 (by first | assumption | rfl) (X9_adv (d := 5) x.1 hb (by omega)) (Nat.le_of_ble_eq_true rfl) (by omega) (Nat.le_of_ble_eq_true rfl) ?_
    refine V_aload_n (pc := 28) (i := 0) dX3_readIf_28 rfl rfl ?_
    refine V_iconst (pc := 29) (v := 0) dX3_readIf_29 (by decide) ?_
    refine V_sipush (pc := 30) (v := 1023) dX3_readIf_30 (by decide) ?_
    refine V_V2i (pc := 33) dX3_readIf_33 cX3_101 (by first | assumption | rfl) (X3_takeWithin (d := 6) (PI_adv x).1 _ _ hb (by omega)) (Nat.le_of_ble_eq_true rfl) (by omega) (Nat.le_of_ble_eq_true rfl) ?_
    have x1 : PI Z (tkW (adv S) 0 1023).2 t := PI_tkW (PI_adv x)
    have e7 : (tkW (adv S) 0 1023).2 (t + 2) 4 = nI n := by rw [tkW_off (by omega) (by omega), adv_off (by omega)]; exact en
    generalize tkW (adv S) 0 1023 = A at x1 e7
    unfold rdI1
    refine V_istore_n (pc := 36) (i := 2) dX3_readIf_36 rfl (by decide) rfl ?_
    refine V_iload_n (pc := 37) (i := 2) dX3_readIf_37 rfl rfl ?_
    refine V_iconst (pc := 38) (v := -1) dX3_readIf_38 (by decide) ?_
    refine V_icmp_ne (pc := 39) 46 dX3_readIf_39 rfl (fun c39 => ?_) (fun c39 => ?_)
    · have e : thn A 0 1023 = tkW A.2 0 1023 := by rw [thn, if_neg c39]
      rw [e]
      refine V_aload_n (pc := 46) (i := 0) dX3_readIf_46 rfl rfl ?_
      refine V_iconst (pc := 47) (v := 0) dX3_readIf_47 (by decide) ?_
      refine V_sipush (pc := 48) (v := 1023) dX3_readIf_48 (by decide) ?_
      refine V_V2i (pc := 51) dX3_readIf_51 cX3_101 (by first | assumption | rfl) (X3_takeWithin (d := 6) x1.1 _ _ hb (by omega)) (Nat.le_of_ble_eq_true rfl) (by omega) (Nat.le_of_ble_eq_true rfl) ?_
      exact j54 A.1 _ (PI_tkW x1) (by rw [tkW_off (by omega) (by omega)]; exact e7)
    · have e : thn A 0 1023 = (-1, A.2) := by rw [thn, if_pos c39]
      rw [e]
      refine V_iconst (pc := 42) (v := -1) dX3_readIf_42 (by decide) ?_
      refine V_goto (pc := 43) 54 dX3_readIf_43 rfl ?_
      exact j54 A.1 (-1, A.2) x1 e7
  · rw [if_neg c12]
    refine V_aload_n (pc := 15) (i := 0) dX3_readIf_15 rfl rfl ?_
    refine V_iconst (pc := 16) (v := 2) dX3_readIf_16 (by decide) ?_
    refine V_V1i (pc := 17) dX3_readIf_17 cX3_79 (by first | assumption | rfl) (X3_refuse (d := 0) _ hb) (Nat.le_of_ble_eq_true rfl) (by omega) (Nat.le_of_ble_eq_true rfl) ?_
    exact VE_zret (pc := 20) dX3_readIf_20 rfl (Or.inl rfl) rfl rfl
def rdB1 (t : Nat) (A : Int32 × (Nat → Nat → Int32)) : Bool × (Nat → Nat → Int32) := if A.1 = -1 then (false, A.2) else tkS (up2 (up2 A.2 t 9 A.1) t 10 1) 59
def rdBridge (t : Nat) (S : Nat → Nat → Int32) : Bool × (Nat → Nat → Int32) := if S t 10 = 0 then rdB1 t (tkW (adv S) 1 8) else (false, rfs S 5)
theorem PI_brS {t : Nat} {v : Int32} (p : PI Z S t) : PI Z (up2 (up2 S t 9 v) t 10 1) t := by
  have ht := PI_or p
  obtain ⟨y1, y2, y3, y4, y5, y6⟩ := p
  refine ⟨TI_of y1 (by simp (disch := omega) only [up2_row]), by simp (disch := omega) only [up2_row]; exact y2, by simp (disch := omega) only [up2_col]; exact y3, by simp (disch := omega) only [up2_row]; exact y4, by simp (disch := omega) only [up2_row]; exact y5, fun k k1 k2 k3 => by simp (disch := omega) only [up2_row]; exact y6 k k1 k2 k3⟩
theorem PI_rdBridge {t : Nat} (x : PI Z S t) : PI Z (rdBridge t S).2 t := by
  unfold rdBridge
  split
  · unfold rdB1
    split
    · exact PI_tkW (PI_adv x)
    · exact PI_tkS (PI_brS (PI_tkW (PI_adv x)))
  · exact PI_rfs x
theorem X3_readBridge {t : Nat} (x : PI Z S t) (hb : gB G ≤ b) (hd : 7 ≤ d) : VM G mX3_readBridge d 0 0 [.ref (b + 1)] (xE (some (.int (b2i (rdBridge t S).1))) (wH G b tbC (rdBridge t S).2 h0)) (wH G b tbC S h0) := by
  have ht := PI_or x
  have hS := tbC_shore (S 1 1)
  rw [x.2.1] at hS
  obtain ⟨a0, -⟩ := id hS
  have hsh := x.2.1
  refine VM_start (ls := [some (.ref (b + 1)), none]) rfl ?_
  unfold rdBridge
  -- %m X3_readBridge
  refine V_aload_n (pc := 0) (i := 0) dX3_readBridge_0 rfl rfl ?_
  refine VW_getWs (pc := 1) dX3_readBridge_1 fX3_21 (by first | assumption | rfl) rfl (by first | assumption | (simp (disch := omega) only [up2_row, up2_col, up2_same, upR_row]; assumption)) ?_
  refine VW_getI (pc := 4) dX3_readBridge_4 fX3_131 (by first | assumption | rfl) rfl ?_
  refine V_if_eq (pc := 7) 16 dX3_readBridge_7 rfl (fun c7 => ?_) (fun c7 => ?_)
  · rw [if_pos c7]
    refine V_aload_n (pc := 16) (i := 0) dX3_readBridge_16 rfl rfl ?_
    refine VW_getR (pc := 17) dX3_readBridge_17 fX3_12 (by first | assumption | rfl) rfl ?_
    refine V_V0v (pc := 20) dX3_readBridge_20 cX3_83 (by first | assumption | rfl) (X9_adv (d := 5) x.1 hb (by omega)) (Nat.le_of_ble_eq_true rfl) (by omega) (Nat.le_of_ble_eq_true rfl) ?_
    refine V_aload_n (pc := 23) (i := 0) dX3_readBridge_23 rfl rfl ?_
    refine V_iconst (pc := 24) (v := 1) dX3_readBridge_24 (by decide) ?_
    refine V_bipush (pc := 25) (v := 8) dX3_readBridge_25 (by decide) ?_
    refine V_V2i (pc := 27) dX3_readBridge_27 cX3_101 (by first | assumption | rfl) (X3_takeWithin (d := 6) (PI_adv x).1 _ _ hb (by omega)) (Nat.le_of_ble_eq_true rfl) (by omega) (Nat.le_of_ble_eq_true rfl) ?_
    have x1 : PI Z (tkW (adv S) 1 8).2 t := PI_tkW (PI_adv x)
    generalize tkW (adv S) 1 8 = A at x1
    have hsh1 := x1.2.1
    have hsh2 : shC (up2 A.2 t 9 A.1 1 1) = t := by rw [up2_row (by omega)]; exact hsh1
    unfold rdB1
    refine V_istore_n (pc := 30) (i := 1) dX3_readBridge_30 rfl (by decide) rfl ?_
    refine V_iload_n (pc := 31) (i := 1) dX3_readBridge_31 rfl rfl ?_
    refine V_iconst (pc := 32) (v := -1) dX3_readBridge_32 (by decide) ?_
    refine V_icmp_ne (pc := 33) 38 dX3_readBridge_33 rfl (fun c33 => ?_) (fun c33 => ?_)
    · rw [if_neg c33]
      refine V_aload_n (pc := 38) (i := 0) dX3_readBridge_38 rfl rfl ?_
      refine VW_getWs (pc := 39) dX3_readBridge_39 fX3_21 (by first | assumption | rfl) rfl (by first | assumption | (simp (disch := omega) only [up2_row, up2_col, up2_same, upR_row]; assumption)) ?_
      refine V_iload_n (pc := 42) (i := 1) dX3_readBridge_42 rfl rfl ?_
      refine VW_putI (pc := 43) dX3_readBridge_43 fX3_135 ftX7 (fpI rfl rfl (tyX7_ok 9 (by decide))) (by first | assumption | rfl) rfl (by assumption) ?_
      refine V_aload_n (pc := 46) (i := 0) dX3_readBridge_46 rfl rfl ?_
      refine VW_getWs (pc := 47) dX3_readBridge_47 fX3_21 (by first | assumption | rfl) rfl (by first | assumption | (simp (disch := omega) only [up2_row, up2_col, up2_same, upR_row]; assumption)) ?_
      refine V_iconst (pc := 50) (v := 1) dX3_readBridge_50 (by decide) ?_
      refine VW_putI (pc := 51) dX3_readBridge_51 fX3_131 ftX7 (fpZ rfl rfl (tyX7_ok 10 (by decide)) (by first | exact Or.inl rfl | exact Or.inr rfl)) (by first | assumption | rfl) rfl (by assumption) ?_
      refine V_aload_n (pc := 54) (i := 0) dX3_readBridge_54 rfl rfl ?_
      refine V_bipush (pc := 55) (v := 59) dX3_readBridge_55 (by decide) ?_
      refine V_V1i (pc := 57) dX3_readBridge_57 cX3_108 (by first | assumption | rfl) (X3_takeSign (d := 6) (PI_brS x1).1 _ hb (by omega)) (Nat.le_of_ble_eq_true rfl) (by omega) (Nat.le_of_ble_eq_true rfl) ?_
      exact VE_zret (pc := 60) dX3_readBridge_60 rfl (b2i_01 _) rfl rfl
    · rw [if_pos c33]
      refine V_iconst (pc := 36) (v := 0) dX3_readBridge_36 (by decide) ?_
      exact VE_zret (pc := 37) dX3_readBridge_37 rfl (Or.inl rfl) rfl rfl
  · rw [if_neg c7]
    refine V_aload_n (pc := 10) (i := 0) dX3_readBridge_10 rfl rfl ?_
    refine V_iconst (pc := 11) (v := 5) dX3_readBridge_11 (by decide) ?_
    refine V_V1i (pc := 12) dX3_readBridge_12 cX3_79 (by first | assumption | rfl) (X3_refuse (d := 0) _ hb) (Nat.le_of_ble_eq_true rfl) (by omega) (Nat.le_of_ble_eq_true rfl) ?_
    exact VE_zret (pc := 15) dX3_readBridge_15 rfl (Or.inl rfl) rfl rfl
def rdC1 (A : Bool × (Nat → Nat → Int32)) : Bool × (Nat → Nat → Int32) := if A.1 then tkS A.2 59 else (false, A.2)
def rdCrosses (t : Nat) (S : Nat → Nat → Int32) : Bool × (Nat → Nat → Int32) := if 0 < S (t + 6) 2 then (false, rfs S 5) else rdC1 (exF t 6 (adv S))
theorem PI_XI {t : Nat} (x : PI Z S t) : XI S S t := ⟨x.1, x.2.1, x.2.2.2.2.1, fun _ _ _ _ _ => rfl⟩
theorem XI_PI {t : Nat} (x : PI Z S t) (y : XI S T t) : PI Z T t := by
  have ht := PI_or x
  obtain ⟨y1, y2, y3, y4⟩ := y
  exact ⟨y1, y2, by rw [y4 t (by omega) (by omega) (by omega) (by omega)]; exact x.2.2.1, by rw [y4 (t + 2) (by omega) (by omega) (by omega) (by omega)]; exact x.2.2.2.1, y3, fun k k1 k2 k3 => (y4 k k1 k2 (by omega) (by omega)).trans (x.2.2.2.2.2 k k1 k2 k3)⟩
theorem PI_exF {t f : Nat} (x : PI Z S t) : PI Z (exF t f S).2 t := XI_PI x (XI_exF f S (PI_XI x))
theorem PI_rdCrosses {t : Nat} (x : PI Z S t) : PI Z (rdCrosses t S).2 t := by
  unfold rdCrosses
  split
  · exact PI_rfs x
  · unfold rdC1
    split
    · exact PI_tkS (PI_exF (PI_adv x))
    · exact PI_exF (PI_adv x)
theorem X3_readCrosses {t : Nat} (x : PI Z S t) (hb : gB G ≤ b) (hd : 71 ≤ d) : VM G mX3_readCrosses d 0 0 [.ref (b + 1)] (xE (some (.int (b2i (rdCrosses t S).1))) (wH G b tbC (rdCrosses t S).2 h0)) (wH G b tbC S h0) := by
  have ht := PI_or x
  have hS := tbC_shore (S 1 1)
  rw [x.2.1] at hS
  obtain ⟨a0, a1, a2, a3, -⟩ := id hS
  obtain ⟨r0, -⟩ := id a3
  have hsh := x.2.1
  have x1 : PI Z (exF t 6 (adv S)).2 t := PI_exF (PI_adv x)
  refine VM_start (ls := [some (.ref (b + 1))]) rfl ?_
  unfold rdCrosses
  -- %m X3_readCrosses
  refine V_aload_n (pc := 0) (i := 0) dX3_readCrosses_0 rfl rfl ?_
  refine VW_getWs (pc := 1) dX3_readCrosses_1 fX3_21 (by first | assumption | rfl) rfl (by first | assumption | (simp (disch := omega) only [up2_row, up2_col, up2_same, upR_row]; assumption)) ?_
  refine VW_getR (pc := 4) dX3_readCrosses_4 fX3_138 (by first | assumption | rfl) rfl ?_
  refine V_V0i (pc := 7) dX3_readCrosses_7 cX3_142 (by first | assumption | rfl) (X4_isTold (d := 0) a3) (Nat.le_of_ble_eq_true rfl) (by omega) (Nat.le_of_ble_eq_true rfl) ?_
  refine V_if_eq (pc := 10) 19 dX3_readCrosses_10 rfl (fun c10 => ?_) (fun c10 => ?_)
  · rw [if_neg (of_decide_eq_false (b2i_0.mp c10))]
    refine V_aload_n (pc := 19) (i := 0) dX3_readCrosses_19 rfl rfl ?_
    refine VW_getR (pc := 20) dX3_readCrosses_20 fX3_12 (by first | assumption | rfl) rfl ?_
    refine V_V0v (pc := 23) dX3_readCrosses_23 cX3_83 (by first | assumption | rfl) (X9_adv (d := 5) x.1 hb (by omega)) (Nat.le_of_ble_eq_true rfl) (by omega) (Nat.le_of_ble_eq_true rfl) ?_
    refine V_aload_n (pc := 26) (i := 0) dX3_readCrosses_26 rfl rfl ?_
    refine V_iconst (pc := 27) (v := 0) dX3_readCrosses_27 (by decide) ?_
    refine V_V1i (pc := 28) dX3_readCrosses_28 cX3_147 (by first | assumption | rfl) (X3_readExpr hb 6 (adv S) 70 (Nat.le_refl _) (PI_XI (PI_adv x)) (by decide)) (Nat.le_of_ble_eq_true rfl) (by omega) (Nat.le_of_ble_eq_true rfl) ?_
    generalize exF t 6 (adv S) = A at x1
    unfold rdC1
    refine V_if_eq (pc := 31) 47 dX3_readCrosses_31 rfl (fun c31 => ?_) (fun c31 => ?_)
    · rw [if_neg (by rw [b2i_0.mp c31]; decide)]
      refine V_iconst (pc := 47) (v := 0) dX3_readCrosses_47 (by decide) ?_
      exact VE_zret (pc := 48) dX3_readCrosses_48 rfl (Or.inl rfl) rfl rfl
    · rw [if_pos (b2i_n0.mp c31)]
      refine V_aload_n (pc := 34) (i := 0) dX3_readCrosses_34 rfl rfl ?_
      refine V_bipush (pc := 35) (v := 59) dX3_readCrosses_35 (by decide) ?_
      refine V_V1i (pc := 37) dX3_readCrosses_37 cX3_108 (by first | assumption | rfl) (X3_takeSign (d := 6) x1.1 _ hb (by omega)) (Nat.le_of_ble_eq_true rfl) (by omega) (Nat.le_of_ble_eq_true rfl) ?_
      refine V_if_eq (pc := 40) 47 dX3_readCrosses_40 rfl (fun c40 => ?_) (fun c40 => ?_)
      · refine V_iconst (pc := 47) (v := 0) dX3_readCrosses_47 (by decide) ?_
        exact VE_zret (pc := 48) dX3_readCrosses_48 rfl (Or.inl rfl) (by rw [b2i_0.mp c40]; rfl) rfl
      · refine V_iconst (pc := 43) (v := 1) dX3_readCrosses_43 (by decide) ?_
        refine V_goto (pc := 44) 48 dX3_readCrosses_44 rfl ?_
        exact VE_zret (pc := 48) dX3_readCrosses_48 rfl (Or.inr rfl) (by rw [b2i_n0.mp c40]; rfl) rfl
  · rw [if_pos (of_decide_eq_true (b2i_n0.mp c10))]
    refine V_aload_n (pc := 13) (i := 0) dX3_readCrosses_13 rfl rfl ?_
    refine V_iconst (pc := 14) (v := 5) dX3_readCrosses_14 (by decide) ?_
    refine V_V1i (pc := 15) dX3_readCrosses_15 cX3_79 (by first | assumption | rfl) (X3_refuse (d := 0) _ hb) (Nat.le_of_ble_eq_true rfl) (by omega) (Nat.le_of_ble_eq_true rfl) ?_
    exact VE_zret (pc := 18) dX3_readCrosses_18 rfl (Or.inl rfl) rfl rfl
/-- a LINE -/
def rdLine (t : Nat) (S : Nat → Nat → Int32) : Bool × (Nat → Nat → Int32) := if wrd S lWorth then rdWorth t S else if wrd S lPerson then rdPerson t S else if wrd S lIf then rdIf t 0 S else if wrd S lUnless then rdIf t 1 S else if wrd S lBridge then rdBridge t S else if wrd S lCrosses then rdCrosses t S else (false, rfs S 1)
theorem PI_rdLine {t : Nat} (x : PI Z S t) : PI Z (rdLine t S).2 t := by
  unfold rdLine
  by_cases c1 : wrd S lWorth = true
  · rw [if_pos c1]; exact PI_rdWorth x
  rw [if_neg c1]
  by_cases c2 : wrd S lPerson = true
  · rw [if_pos c2]; exact PI_rdPerson x
  rw [if_neg c2]
  by_cases c3 : wrd S lIf = true
  · rw [if_pos c3]; exact PI_rdIf x
  rw [if_neg c3]
  by_cases c4 : wrd S lUnless = true
  · rw [if_pos c4]; exact PI_rdIf x
  rw [if_neg c4]
  by_cases c5 : wrd S lBridge = true
  · rw [if_pos c5]; exact PI_rdBridge x
  rw [if_neg c5]
  by_cases c6 : wrd S lCrosses = true
  · rw [if_pos c6]; exact PI_rdCrosses x
  · rw [if_neg c6]; exact PI_rfs x
theorem X3_readLine {t : Nat} (x : PI Z S t) (hb : gB G ≤ b) (hd : 72 ≤ d) : VM G mX3_readLine d 0 0 [.ref (b + 1)] (xE (some (.int (b2i (rdLine t S).1))) (wH G b tbC (rdLine t S).2 h0)) (wH G b tbC S h0) := by
  refine VM_start (ls := [some (.ref (b + 1))]) rfl ?_
  unfold rdLine
  -- %m X3_readLine
  refine V_aload_n (pc := 0) (i := 0) dX3_readLine_0 rfl rfl ?_
  refine VW_getR (pc := 1) dX3_readLine_1 fX3_12 (by first | assumption | rfl) rfl ?_
  refine V_ldcS (pc := 4) (i := 2) dX3_readLine_4 rfl ?_
  refine V_V1i (pc := 6) dX3_readLine_6 cX3_49 (by first | assumption | rfl) (X9_word lWorth (d := 4) rfl x.1 (by omega)) (Nat.le_of_ble_eq_true rfl) (by omega) (Nat.le_of_ble_eq_true rfl) ?_
  refine V_if_eq (pc := 9) 17 dX3_readLine_9 rfl (fun c9 => ?_) (fun c9 => ?_)
  · rw [if_neg (by rw [b2i_0.mp c9]; decide)]
    refine V_aload_n (pc := 17) (i := 0) dX3_readLine_17 rfl rfl ?_
    refine VW_getR (pc := 18) dX3_readLine_18 fX3_12 (by first | assumption | rfl) rfl ?_
    refine V_ldcS (pc := 21) (i := 3) dX3_readLine_21 rfl ?_
    refine V_V1i (pc := 23) dX3_readLine_23 cX3_49 (by first | assumption | rfl) (X9_word lPerson (d := 4) rfl x.1 (by omega)) (Nat.le_of_ble_eq_true rfl) (by omega) (Nat.le_of_ble_eq_true rfl) ?_
    refine V_if_eq (pc := 26) 34 dX3_readLine_26 rfl (fun c26 => ?_) (fun c26 => ?_)
    · rw [if_neg (by rw [b2i_0.mp c26]; decide)]
      refine V_aload_n (pc := 34) (i := 0) dX3_readLine_34 rfl rfl ?_
      refine VW_getR (pc := 35) dX3_readLine_35 fX3_12 (by first | assumption | rfl) rfl ?_
      refine V_ldcS (pc := 38) (i := 4) dX3_readLine_38 rfl ?_
      refine V_V1i (pc := 40) dX3_readLine_40 cX3_49 (by first | assumption | rfl) (X9_word lIf (d := 4) rfl x.1 (by omega)) (Nat.le_of_ble_eq_true rfl) (by omega) (Nat.le_of_ble_eq_true rfl) ?_
      refine V_if_eq (pc := 43) 52 dX3_readLine_43 rfl (fun c43 => ?_) (fun c43 => ?_)
      · rw [if_neg (by rw [b2i_0.mp c43]; decide)]
        refine V_aload_n (pc := 52) (i := 0) dX3_readLine_52 rfl rfl ?_
        refine VW_getR (pc := 53) dX3_readLine_53 fX3_12 (by first | assumption | rfl) rfl ?_
        refine V_ldcS (pc := 56) (i := 5) dX3_readLine_56 rfl ?_
        refine V_V1i (pc := 58) dX3_readLine_58 cX3_49 (by first | assumption | rfl) (X9_word lUnless (d := 4) rfl x.1 (by omega)) (Nat.le_of_ble_eq_true rfl) (by omega) (Nat.le_of_ble_eq_true rfl) ?_
        refine V_if_eq (pc := 61) 70 dX3_readLine_61 rfl (fun c61 => ?_) (fun c61 => ?_)
        · rw [if_neg (by rw [b2i_0.mp c61]; decide)]
          refine V_aload_n (pc := 70) (i := 0) dX3_readLine_70 rfl rfl ?_
          refine VW_getR (pc := 71) dX3_readLine_71 fX3_12 (by first | assumption | rfl) rfl ?_
          refine V_ldcS (pc := 74) (i := 6) dX3_readLine_74 rfl ?_
          refine V_V1i (pc := 76) dX3_readLine_76 cX3_49 (by first | assumption | rfl) (X9_word lBridge (d := 4) rfl x.1 (by omega)) (Nat.le_of_ble_eq_true rfl) (by omega) (Nat.le_of_ble_eq_true rfl) ?_
          refine V_if_eq (pc := 79) 87 dX3_readLine_79 rfl (fun c79 => ?_) (fun c79 => ?_)
          · rw [if_neg (by rw [b2i_0.mp c79]; decide)]
            refine V_aload_n (pc := 87) (i := 0) dX3_readLine_87 rfl rfl ?_
            refine VW_getR (pc := 88) dX3_readLine_88 fX3_12 (by first | assumption | rfl) rfl ?_
            refine V_ldcS (pc := 91) (i := 7) dX3_readLine_91 rfl ?_
            refine V_V1i (pc := 93) dX3_readLine_93 cX3_49 (by first | assumption | rfl) (X9_word lCrosses (d := 4) rfl x.1 (by omega)) (Nat.le_of_ble_eq_true rfl) (by omega) (Nat.le_of_ble_eq_true rfl) ?_
            refine V_if_eq (pc := 96) 106 dX3_readLine_96 rfl (fun c96 => ?_) (fun c96 => ?_)
            · rw [if_neg (by rw [b2i_0.mp c96]; decide)]
              refine V_aload_n (pc := 106) (i := 0) dX3_readLine_106 rfl rfl ?_
              refine V_iconst (pc := 107) (v := 1) dX3_readLine_107 (by decide) ?_
              refine V_V1i (pc := 108) dX3_readLine_108 cX3_79 (by first | assumption | rfl) (X3_refuse (d := 0) _ hb) (Nat.le_of_ble_eq_true rfl) (by omega) (Nat.le_of_ble_eq_true rfl) ?_
              exact VE_zret (pc := 111) dX3_readLine_111 rfl (by first | exact b2i_01 _ | exact Or.inl rfl) rfl rfl
            · rw [if_pos (b2i_n0.mp c96)]
              refine V_aload_n (pc := 99) (i := 0) dX3_readLine_99 rfl rfl ?_
              refine V_V0i (pc := 100) dX3_readLine_100 cX3_76 (by first | assumption | rfl) (X3_readCrosses (d := 71) x hb (by omega)) (Nat.le_of_ble_eq_true rfl) (by omega) (Nat.le_of_ble_eq_true rfl) ?_
              refine V_goto (pc := 103) 111 dX3_readLine_103 rfl ?_
              exact VE_zret (pc := 111) dX3_readLine_111 rfl (by first | exact b2i_01 _ | exact Or.inl rfl) rfl rfl
          · rw [if_pos (b2i_n0.mp c79)]
            refine V_aload_n (pc := 82) (i := 0) dX3_readLine_82 rfl rfl ?_
            refine V_V0i (pc := 83) dX3_readLine_83 cX3_71 (by first | assumption | rfl) (X3_readBridge (d := 7) x hb (by omega)) (Nat.le_of_ble_eq_true rfl) (by omega) (Nat.le_of_ble_eq_true rfl) ?_
            exact VE_zret (pc := 86) dX3_readLine_86 rfl (by first | exact b2i_01 _ | exact Or.inl rfl) rfl rfl
        · rw [if_pos (b2i_n0.mp c61)]
          refine V_aload_n (pc := 64) (i := 0) dX3_readLine_64 rfl rfl ?_
          refine V_iconst (pc := 65) (v := 1) dX3_readLine_65 (by decide) ?_
          refine V_V1i (pc := 66) dX3_readLine_66 cX3_63 (by first | assumption | rfl) (X3_readIf (d := 7) _ x hb (by omega)) (Nat.le_of_ble_eq_true rfl) (by omega) (Nat.le_of_ble_eq_true rfl) ?_
          exact VE_zret (pc := 69) dX3_readLine_69 rfl (by first | exact b2i_01 _ | exact Or.inl rfl) rfl rfl
      · rw [if_pos (b2i_n0.mp c43)]
        refine V_aload_n (pc := 46) (i := 0) dX3_readLine_46 rfl rfl ?_
        refine V_iconst (pc := 47) (v := 0) dX3_readLine_47 (by decide) ?_
        refine V_V1i (pc := 48) dX3_readLine_48 cX3_63 (by first | assumption | rfl) (X3_readIf (d := 7) _ x hb (by omega)) (Nat.le_of_ble_eq_true rfl) (by omega) (Nat.le_of_ble_eq_true rfl) ?_
        exact VE_zret (pc := 51) dX3_readLine_51 rfl (by first | exact b2i_01 _ | exact Or.inl rfl) rfl rfl
    · rw [if_pos (b2i_n0.mp c26)]
      refine V_aload_n (pc := 29) (i := 0) dX3_readLine_29 rfl rfl ?_
      refine V_V0i (pc := 30) dX3_readLine_30 cX3_58 (by first | assumption | rfl) (X3_readPerson (d := 7) x hb (by omega)) (Nat.le_of_ble_eq_true rfl) (by omega) (Nat.le_of_ble_eq_true rfl) ?_
      exact VE_zret (pc := 33) dX3_readLine_33 rfl (by first | exact b2i_01 _ | exact Or.inl rfl) rfl rfl
  · rw [if_pos (b2i_n0.mp c9)]
    refine V_aload_n (pc := 12) (i := 0) dX3_readLine_12 rfl rfl ?_
    refine V_V0i (pc := 13) dX3_readLine_13 cX3_53 (by first | assumption | rfl) (X3_readWorth (d := 7) x hb (by omega)) (Nat.le_of_ble_eq_true rfl) (by omega) (Nat.le_of_ble_eq_true rfl) ?_
    exact VE_zret (pc := 16) dX3_readLine_16 rfl (by first | exact b2i_01 _ | exact Or.inl rfl) rfl rfl
/-- LINES: m at most -/
def rdLs (t : Nat) : Nat → (Nat → Nat → Int32) → Int32 × (Nat → Nat → Int32)
  | 0, S => (0, S)
  | m + 1, S => if S 2 6 = 0 then (0, S) else if (rdLine t S).1 then rdLs t m (rdLine t S).2 else ((rdLine t S).2 1 2, (rdLine t S).2)
theorem PI_rdLs {t : Nat} : ∀ (m : Nat) (S : Nat → Nat → Int32), PI Z S t → PI Z (rdLs t m S).2 t := by
  intro m
  induction m with
  | zero => intro S x; exact x
  | succ m ih =>
    intro S x
    rw [rdLs]
    split
    · exact x
    split
    · exact ih _ (PI_rdLine x)
    · exact PI_rdLine x
/-- ahead of a text of k bytes -/
def rd0 (S : Nat → Nat → Int32) (t k : Nat) : Nat → Nat → Int32 := strt (shClear (up2 (up2 S 1 2 0) 1 3 (-1)) t) k
def rdT (S : Nat → Nat → Int32) (t k : Nat) : Int32 × (Nat → Nat → Int32) := rdLs t (k + 1) (rd0 S t k)
theorem strt_off {k j : Nat} (h : j ≠ 2) : strt S k j = S j := by rw [strt, adv_off h, up2_row h, up2_row h]
theorem strt_T {k : Nat} (hk : k ≤ 700) : TI (strt S k) := by
  obtain ⟨e1, e2⟩ := strt_TI (S := S) hk
  have l1 := tkP_le (B := (up2 (up2 S 2 1 (nI k)) 2 2 0) 3) (Nat.zero_le k)
  have l2 := tkE_le (B := (up2 (up2 S 2 1 (nI k)) 2 2 0) 3) (Nat.zero_le k)
  unfold strt
  have f1 : adv (up2 (up2 S 2 1 (nI k)) 2 2 0) 2 1 = nI k := by rw [adv_1, up2_col (by decide), up2_same]
  have f5 := adv_5 (S := up2 (up2 S 2 1 (nI k)) 2 2 0)
  have f2 := adv_2 (S := up2 (up2 S 2 1 (nI k)) 2 2 0)
  rw [e1, e2] at f5 f2
  unfold TI tL tP tE
  rw [f1, f5, f2, nI_clamp (by omega), nI_clamp (by omega), nI_clamp (by omega)]
  exact ⟨rfl, hk, rfl, rfl, by omega, by omega⟩
theorem shClear_off {s k : Nat} (h : k < s ∨ s + 12 < k) : shClear S s k = S k := by
  simp (disch := omega) only [shClear, up2_row, upR_row]
theorem PI_rd0 {t k : Nat} (hk : k ≤ 700) (hsh : shC (S 1 1) = t) : PI S (rd0 S t k) t := by
  have ht := shC_or (S 1 1)
  rw [hsh] at ht
  unfold rd0
  refine ⟨strt_T hk, ?_, ⟨0, by decide, ?_⟩, ⟨0, by decide, ?_⟩, ⟨0, by decide, ?_⟩, fun j j1 j2 j3 => ?_⟩
  · rw [strt_off (by decide), shClear_off (by omega), up2_col (by decide), up2_col (by decide)]; exact hsh
  · rw [strt_off (by omega)]; simp (disch := omega) only [shClear, up2_row, up2_col, up2_same]; rfl
  · rw [strt_off (by omega)]; simp (disch := omega) only [shClear, up2_row, up2_col, up2_same]; rfl
  · rw [strt_off (by omega)]; simp (disch := omega) only [shClear, up2_row, up2_col, up2_same]; rfl
  · rw [strt_off j2, shClear_off (by omega), up2_row j1, up2_row j1]
theorem X3_read {t k : Nat} (hk : k ≤ 700) (hsh : shC (S 1 1) = t) (hb : gB G ≤ b) (hd : 73 ≤ d) : VM G mX3_read d 0 0 [.ref (b + 1), .int (nI k)] (xE (some (.int (rdT S t k).1)) (wH G b tbC (rdT S t k).2 h0)) (wH G b tbC S h0) := by
  have hS := tbC_shore (S 1 1)
  rw [hsh] at hS
  have x0 := PI_rd0 hk hsh
  have hsh2 : shC (up2 (up2 S 1 2 0) 1 3 (-1) 1 1) = t := by rw [up2_col (by decide), up2_col (by decide)]; exact hsh
  obtain ⟨a0, -⟩ := id hS
  refine VM_start (ls := [some (.ref (b + 1)), some (.int (nI k)), none]) rfl ?_
  unfold rdT
  -- %m X3_read
  refine V_aload_n (pc := 0) (i := 0) dX3_read_0 rfl rfl ?_
  refine V_iconst (pc := 1) (v := 0) dX3_read_1 (by decide) ?_
  refine VW_putI (pc := 2) dX3_read_2 fX3_25 ftX3 (fpI rfl rfl (tyX3_ok 2 (by decide))) (by first | assumption | rfl) rfl (by assumption) ?_
  refine V_aload_n (pc := 5) (i := 0) dX3_read_5 rfl rfl ?_
  refine V_iconst (pc := 6) (v := -1) dX3_read_6 (by decide) ?_
  refine VW_putI (pc := 7) dX3_read_7 fX3_29 ftX3 (fpI rfl rfl (tyX3_ok 3 (by decide))) (by first | assumption | rfl) rfl (by assumption) ?_
  refine V_aload_n (pc := 10) (i := 0) dX3_read_10 rfl rfl ?_
  refine VW_getWs (pc := 11) dX3_read_11 fX3_21 (by first | assumption | rfl) rfl (by first | assumption | (simp (disch := omega) only [up2_row, up2_col, up2_same, upR_row]; assumption)) ?_
  refine V_V0v (pc := 14) dX3_read_14 cX3_32 (by first | assumption | rfl) (X7_clear (d := 1) hS hb (by omega)) (Nat.le_of_ble_eq_true rfl) (by omega) (Nat.le_of_ble_eq_true rfl) ?_
  refine V_aload_n (pc := 17) (i := 0) dX3_read_17 rfl rfl ?_
  refine VW_getR (pc := 18) dX3_read_18 fX3_12 (by first | assumption | rfl) rfl ?_
  refine V_iload_n (pc := 21) (i := 1) dX3_read_21 rfl rfl ?_
  refine V_V1v (pc := 22) dX3_read_22 cX3_35 (by first | assumption | rfl) (X9_start (n := k) (d := 6) hk hb (by omega)) (Nat.le_of_ble_eq_true rfl) (by omega) (Nat.le_of_ble_eq_true rfl) ?_
  refine V_iconst (pc := 25) (v := 0) dX3_read_25 (by decide) ?_
  refine V_istore_n (pc := 26) (i := 2) dX3_read_26 rfl (by decide) rfl ?_
  show V G mX3_read d 0 0 _ 27 [some (.ref (b + 1)), some (.int (nI k)), some (.int (nI 0))] [] (wH G b tbC (rd0 S t k) h0)
  generalize rd0 S t k = S0 at x0
  have loop : ∀ (m i : Nat) (T : Nat → Nat → Int32), m + i = k + 1 → PI S T t → V G mX3_read d 0 0 (xE (some (.int (rdLs t m T).1)) (wH G b tbC (rdLs t m T).2 h0)) 27 [some (.ref (b + 1)), some (.int (nI k)), some (.int (nI i))] [] (wH G b tbC T h0) := by
    intro m
    induction m with
    | zero =>
      intro i T hm x
      refine V_iload_n (pc := 27) (i := 2) dX3_read_27 rfl rfl ?_
      refine V_iload_n (pc := 28) (i := 1) dX3_read_28 rfl rfl ?_
      refine V_icmp_gt (pc := 29) 60 dX3_read_29 rfl (fun c29 => ?_) (fun c29 => ?_)
      · refine V_iconst (pc := 60) (v := 0) dX3_read_60 (by decide) ?_
        exact VE_iret (pc := 61) dX3_read_61 rfl rfl rfl
      · exact absurd (by rw [show i = k + 1 by omega]; exact nI_lt (by omega) (by omega)) c29
    | succ m ih =>
      intro i T hm x
      rw [rdLs]
      refine V_iload_n (pc := 27) (i := 2) dX3_read_27 rfl rfl ?_
      refine V_iload_n (pc := 28) (i := 1) dX3_read_28 rfl rfl ?_
      refine V_icmp_gt (pc := 29) 60 dX3_read_29 rfl (fun c29 => ?_) (fun c29 => ?_)
      · exact absurd c29 (nI_nlt (by omega) (by omega))
      · refine V_aload_n (pc := 32) (i := 0) dX3_read_32 rfl rfl ?_
        refine VW_getR (pc := 33) dX3_read_33 fX3_12 (by first | assumption | rfl) rfl ?_
        refine VW_getI (pc := 36) dX3_read_36 fX3_39 (by first | assumption | rfl) rfl ?_
        refine V_if_eq (pc := 39) 60 dX3_read_39 rfl (fun c39 => ?_) (fun c39 => ?_)
        · rw [if_pos c39]
          refine V_iconst (pc := 60) (v := 0) dX3_read_60 (by decide) ?_
          exact VE_iret (pc := 61) dX3_read_61 rfl rfl rfl
        · rw [if_neg c39]
          refine V_aload_n (pc := 42) (i := 0) dX3_read_42 rfl rfl ?_
          refine V_V0i (pc := 43) dX3_read_43 cX3_42 (by first | assumption | rfl) (X3_readLine (d := 72) x hb (by omega)) (Nat.le_of_ble_eq_true rfl) (by omega) (Nat.le_of_ble_eq_true rfl) ?_
          refine V_if_ne (pc := 46) 54 dX3_read_46 rfl (fun c46 => ?_) (fun c46 => ?_)
          · rw [if_pos (b2i_n0.mp c46)]
            refine V_iinc (pc := 54) dX3_read_54 (by decide) rfl rfl (iincN (n := 1) (by decide)) ?_
            refine V_goto (pc := 57) 27 dX3_read_57 rfl ?_
            exact ih (i + 1) _ (by omega) (PI_rdLine x)
          · rw [if_neg (by rw [b2i_0.mp c46]; decide)]
            refine V_aload_n (pc := 49) (i := 0) dX3_read_49 rfl rfl ?_
            refine VW_getI (pc := 50) dX3_read_50 fX3_25 (by first | assumption | rfl) rfl ?_
            exact VE_iret (pc := 53) dX3_read_53 rfl rfl rfl
  exact loop (k + 1) 0 S0 rfl x0
end Rl
