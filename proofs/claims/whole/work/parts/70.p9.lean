/-! ===== both readers side by side: lines ===== -/
section P9
variable {G : xG} {d : Nat} {b : Nat} {S S1 S2 S3 T T1 T2 T3 U Z : Nat → Nat → Int32} {h0 h : xH} {t w : Nat}
/-- where the halves end -/
def thr (k : Nat) : Nat := if k = 3 then 4 else if k = 4 then 10 else if k ≤ 8 then 8 else if k ≤ 12 then 12 else 700
/-- what reading leaves as it is -/
def FR (Z T : Nat → Nat → Int32) : Prop := (∀ k, 13 < k ∨ k = 1 ∨ k = 2 → T k = Z k) ∧ (∀ k j, 3 ≤ k → k ≤ 13 → j < thr k → T k j = Z k j) ∧ ∀ j, j < 17 ∨ j = 18 ∨ (24 < j ∧ j ≠ 26) → T 0 j = Z 0 j
theorem FR.rfl' : FR T T := ⟨fun _ _ => rfl, fun _ _ _ _ _ => rfl, fun _ _ => rfl⟩
theorem FR.trans (a : FR Z T) (c : FR T U) : FR Z U := ⟨fun k h => (c.1 k h).trans (a.1 k h), fun k j h1 h2 h3 => (c.2.1 k j h1 h2 h3).trans (a.2.1 k j h1 h2 h3), fun j h => (c.2.2 j h).trans (a.2.2 j h)⟩
theorem EX.FR (a : EX Z T) : FR Z T := by
  refine ⟨fun k h => a.1 k (by omega) (by omega) (by omega), fun k j h1 h2 h3 => ?_, fun j h => a.2.1 j (by omega)⟩
  by_cases e : k = 3
  · subst e; exact a.2.2.1 j (by have : thr 3 = 4 := rfl; omega)
  · by_cases e2 : k = 13
    · subst e2; exact a.2.2.2 j (by have : thr 13 = 700 := rfl; omega)
    · rw [a.1 k (by omega) e e2]
theorem FR_up {k j : Nat} {x : Int32} (h1 : 3 ≤ k) (h2 : k ≤ 13) (h3 : thr k ≤ j) : FR T (up2 T k j x) := ⟨fun q h => up2_row (by omega), fun q i a1 a2 a3 => by
  by_cases e : q = k
  · subst e; exact up2_col (by omega)
  · rw [up2_row e], fun i h => by rw [up2_row (by omega)]⟩
theorem FR_up0 {x : Int32} : FR T (up2 T 0 26 x) := ⟨fun q h => up2_row (by omega), fun q i a1 a2 a3 => by rw [up2_row (by omega)], fun i h => up2_col (by omega)⟩
theorem RTk_up {k j : Nat} {x : Int32} (h : RTk S T) (hk : k ≠ 0) (h15 : k ≠ 15) : RTk S (up2 T k j x) := RTk_of h rfl rfl (fun i _ _ => by rw [up2_row (by omega)]) (up2_row (by omega))
theorem RTk_up0 {x : Int32} (h : RTk S T) : RTk S (up2 T 0 26 x) := RTk_of h rfl rfl (fun i _ _ => up2_col (by omega)) (up2_row (by omega))
theorem RB_up {k j : Nat} {x : Int32} (h : RB S T) (hk : k ≠ 0) : RB S (up2 T k j x) := by
  obtain ⟨h1, h2, h3⟩ := h
  unfold RB
  rw [up2_row (by omega)]
  exact ⟨h1, h2, h3⟩
/-- numbers one behind another: good so far, or not -/
def NG (A : Int32 × (Nat → Nat → Int32)) (T : Nat → Nat → Int32) : Prop := (¬ A.1 = -1 ∧ RTk A.2 T ∧ T 0 23 = 0) ∨ (A.1 = -1 ∧ RB A.2 T)
theorem NG_up {k j : Nat} {x : Int32} {A : Int32 × (Nat → Nat → Int32)} (h : NG A T) (hk : k ≠ 0) (h15 : k ≠ 15) : NG A (up2 T k j x) := by
  rcases h with ⟨h1, h2, h3⟩ | ⟨h1, h2⟩
  · exact Or.inl ⟨h1, RTk_up h2 hk h15, by rw [up2_row (by omega)]; exact h3⟩
  · exact Or.inr ⟨h1, RB_up h2 hk⟩
theorem X12_rdN {A : Int32 × (Nat → Nat → Int32)} {l : Nat} {hi : Int32} (n : NG A T) (hl : l < 2 ^ 31) (hb : gB G ≤ b) (hd : 2 ≤ d) : ∃ (v : Int32) (T' : Nat → Nat → Int32), VM G mX12_readNumber d 0 0 [.ref (b + 0), .int (nI l), .int hi] (xE (some (.int v)) (wH G b tbM T' h0)) (wH G b tbM T h0) ∧ NG (thn A (nI l) hi) T' ∧ EX T T' ∧ T' 3 = T 3 ∧ T' 13 = T 13 ∧ ((thn A (nI l) hi).1 = -1 ∨ (v = (thn A (nI l) hi).1 ∧ ¬ A.1 = -1 ∧ ∃ w, w < 10000 ∧ v = nI w ∧ ¬ nI w < nI l ∧ ¬ hi < nI w)) := by
  rcases n with ⟨h1, h2, h3⟩ | ⟨h1, h2⟩
  · have k := X12_readNumber (G := G) (d := d) (b := b) (h0 := h0) h2.2.1 h3 (nI l) hi hb hd
    have et : thn A (nI l) hi = tkW A.2 (nI l) hi := by unfold thn; rw [if_neg h1]
    rcases RTk_num (l := l) (hi := hi) h2 hl with ⟨w, hw, e1, e2, e3, e4, e5, e6⟩ | ⟨k', hk, e1, e2, e3, e4⟩
    · have e7 : tkW A.2 (nI l) hi = (nI w, adv A.2) := by unfold tkW; rw [e1, e4, if_neg (nI_m1 (by omega))]
      rw [e6] at k
      refine ⟨nI w, mAd A.2 T, k, ?_, EX_step, mStep_off (by decide), mStep_off (by decide), Or.inr ⟨by rw [et, e7], h1, w, hw, rfl, e2, e3⟩⟩
      rw [et, e7]
      exact Or.inl ⟨nI_m1 (by omega), RTk_adv h2, by unfold mAd; rw [mStep_0 (by omega)]; exact h3⟩
    · have e7 : tkW A.2 (nI l) hi = (-1, rfs A.2 k') := by unfold tkW; rw [if_pos e1]; exact Prod.ext e1 e2
      have k0 : ¬ k' = 0 := by rcases hk with q | q <;> subst q <;> decide
      rw [e4] at k
      refine ⟨0, wrg T k', k, ?_, EX_wrg, by unfold wrg; rw [up2_row (by decide), up2_row (by decide)], by unfold wrg; rw [up2_row (by decide), up2_row (by decide)], Or.inl (by rw [et, e7])⟩
      rw [et, e7]
      exact Or.inr ⟨rfl, RB_wrg h2 k0⟩
  · have et : thn A (nI l) hi = (-1, A.2) := by unfold thn; rw [if_pos h1]
    refine ⟨0, T, X12_readNumber_bad h2.1 _ _ (by omega), ?_, EX.rfl', rfl, rfl, Or.inl (by rw [et])⟩
    rw [et]
    exact Or.inr ⟨rfl, h2⟩
/-- the drafts are the same: dn tells whether the bridge, the rule is told -/
def RD (S T : Nat → Nat → Int32) (t dn : Nat) : Prop := ∃ pp n r, (t = 4 ∨ t = 44) ∧ (S t 7 = nI pp ∧ T 3 4 = nI pp ∧ pp ≤ 8) ∧ (S (t + 2) 4 = nI n ∧ T 3 5 = nI n ∧ n ≤ 12 ∧ lowB (S (t + 2) 3) n) ∧ (S t 9 = T 3 6 ∧ ∃ bb, 1 ≤ bb ∧ bb ≤ 8 ∧ S t 9 = nI bb) ∧
  (S (t + 6) 2 = nI r ∧ T 3 7 = nI r ∧ r ≤ 700 ∧ (∀ i, i < r → T 13 (700 + i) = cmS (S (t + 7) i)) ∧ (0 < r → dpF (fun j => T 13 (700 + j)) r 0 0 = some 1)) ∧
  ((∀ i, i < 10 → S (t + 1) i = T 4 (10 + i)) ∧ S t 8 = T 0 26) ∧
  (∀ q, q < pp → (S (t + 10) q = T 5 (8 + q) ∧ S (t + 11) q = T 6 (8 + q) ∧ S (t + 9) q = T 7 (8 + q) ∧ S (t + 12) q = T 8 (8 + q)) ∧ (∃ a, a < 1024 ∧ S (t + 10) q = nI a) ∧ (∃ g, g < 10 ∧ S (t + 11) q = nI g) ∧ (∃ g, g < 10 ∧ S (t + 9) q = nI g) ∧ ∃ g, g < 100 ∧ S (t + 12) q = nI g) ∧
  (∀ i, i < n → (S (t + 3) i = T 10 (12 + i) ∧ S (t + 4) i = T 11 (12 + i) ∧ S (t + 5) i = T 12 (12 + i) ∧ T 9 (12 + i) = b2i (hasB (S (t + 2) 3) (nI i))) ∧ ∃ g, g < 10 ∧ S (t + 5) i = nI g) ∧
  (S t 10 = nI (dn % 2) ∧ dn < 4 ∧ (dn / 2 = 1 ↔ 0 < r))
/-- a line, or what is left of it -/
def LQ (S Z : Nat → Nat → Int32) (t dn : Nat) (R : Bool × (Nat → Nat → Int32)) (T' : Nat → Nat → Int32) : Prop := if R.1 then RTk R.2 T' ∧ T' 0 23 = 0 ∧ RD R.2 T' t dn ∧ FR Z T' else RB R.2 T' ∧ FR Z T'
/-- .. ahead of its last sign -/
def LH (A : Bool × (Nat → Nat → Int32)) (Z : Nat → Nat → Int32) (t dn : Nat) (T' : Nat → Nat → Int32) : Prop := (A.1 = true ∧ RTk A.2 T' ∧ T' 0 23 = 0 ∧ RD A.2 T' t dn ∧ FR Z T') ∨ (A.1 = false ∧ RB A.2 T' ∧ FR Z T')
theorem RD_adv {dn : Nat} (h : RD S T t dn) : RD (adv S) (mAd S T) t dn := by
  obtain ⟨pp, n, r, ht, h1⟩ := h
  refine ⟨pp, n, r, ht, ?_⟩
  unfold mAd
  simp (disch := omega) only [adv_off, mStep_off, mStep_0]
  exact h1
/-- the last sign of a line -/
theorem X12_lineEnd {dn : Nat} {A : Bool × (Nat → Nat → Int32)} (n : LH A Z t dn T) (hb : gB G ≤ b) (hd : 2 ≤ d) : ∃ T', VM G mX12_mark d 0 0 [.ref (b + 0), .int 59] (xE none (wH G b tbM T' h0)) (wH G b tbM T h0) ∧ LQ S Z t dn (if A.1 then tkS A.2 59 else (false, A.2)) T' := by
  rcases n with ⟨h1, h2, h3, h4, h5⟩ | ⟨h1, h2, h3⟩
  · have k := X12_mark (G := G) (d := d) (b := b) (h0 := h0) h2.2.1 h3 59 hb hd
    rw [← RTk_sgn h2] at k
    rw [if_pos h1]
    unfold LQ tkS
    by_cases s : sgn A.2 59 = true
    · rw [if_pos s] at k
      simp only [if_pos s]
      exact ⟨_, k, RTk_adv h2, by rw [mStep_0 (by omega)]; exact h3, RD_adv h4, h5.trans EX_step.FR⟩
    · rw [if_neg s] at k
      refine ⟨_, k, ?_⟩
      rw [if_neg s, if_neg (by intro z; cases z)]
      exact ⟨RB_wrg h2 (by decide), h5.trans EX_wrg.FR⟩
  · rw [if_neg (by rw [h1]; decide)]
    refine ⟨T, X12_mark_bad h2.1 _, ?_⟩
    unfold LQ
    rw [if_neg (by intro z; cases z)]
    exact ⟨h2, h3⟩
/-- one more of some -/
theorem X12_another_no {k : Nat} {m : Int32} (hk : k < 4) (hm : T 3 (4 + k) = m) (h0' : T 0 23 = 0) (hb : gB G ≤ b) (hd : 1 ≤ d) : VM G mX12_another d 0 0 [.ref (b + 0), .int (nI k), .int m] (xE (some (.int 0)) (wH G b tbM (wrg T 2) h0)) (wH G b tbM T h0) := by
  refine VM_start (ls := [some (.ref (b + 0)), some (.int (nI k)), some (.int m)]) rfl ?_
  -- %m X12_another
  refine V_aload_n (pc := 0) (i := 0) dX12_another_0 rfl rfl ?_
  refine VW_getR (pc := 1) dX12_another_1 fX12_36 (by first | assumption | rfl) rfl ?_
  refine V_iconst (pc := 4) (v := 4) dX12_another_4 (by decide) ?_
  refine V_iload_n (pc := 5) (i := 1) dX12_another_5 rfl rfl ?_
  refine V_iadd (pc := 6) dX12_another_6 ?_
  refine VW_ialdN (pc := 7) dX12_another_7 (by first | assumption | rfl) (j := 4 + k) (nI_add 4 k) (by omega) (by first | decide | omega) ?_
  refine V_iload_n (pc := 8) (i := 2) dX12_another_8 rfl rfl ?_
  refine V_icmp_ne (pc := 9) 17 dX12_another_9 rfl (fun c9 => ?_) (fun c9 => ?_)
  · exact absurd hm c9
  · refine V_aload_n (pc := 12) (i := 0) dX12_another_12 rfl rfl ?_
    refine V_iconst (pc := 13) (v := 2) dX12_another_13 (by decide) ?_
    refine V_V1v (pc := 14) dX12_another_14 cX12_213 (by first | assumption | rfl) (X12_wrong_ok (d := 0) h0' _ hb) (Nat.le_of_ble_eq_true rfl) (by omega) (Nat.le_of_ble_eq_true rfl) ?_
    refine V_aload_n (pc := 17) (i := 0) dX12_another_17 rfl rfl ?_
    refine VW_getI (pc := 18) dX12_another_18 fX12_192 (by first | assumption | rfl) rfl ?_
    refine V_if_eq (pc := 21) 26 dX12_another_21 rfl (fun c21 => ?_) (fun c21 => ?_)
    · exact absurd c21 (wrg_23 (k := 2) (by decide))
    · refine V_iconst (pc := 24) (v := 0) dX12_another_24 (by decide) ?_
      exact VE_zret (pc := 25) dX12_another_25 rfl (Or.inl rfl) rfl rfl
theorem X12_another_ok {k L P E : Nat} {m : Int32} (hk : k < 4) (hm : ¬ T 3 (4 + k) = m) (p : PMI T L P E) (h0' : T 0 23 = 0) (hb : gB G ≤ b) (hd : 2 ≤ d) : VM G mX12_another d 0 0 [.ref (b + 0), .int (nI k), .int m] (xE (some (.int 1)) (wH G b tbM (mStep T L E) h0)) (wH G b tbM T h0) := by
  refine VM_start (ls := [some (.ref (b + 0)), some (.int (nI k)), some (.int m)]) rfl ?_
  -- %m X12_another
  refine V_aload_n (pc := 0) (i := 0) dX12_another_0 rfl rfl ?_
  refine VW_getR (pc := 1) dX12_another_1 fX12_36 (by first | assumption | rfl) rfl ?_
  refine V_iconst (pc := 4) (v := 4) dX12_another_4 (by decide) ?_
  refine V_iload_n (pc := 5) (i := 1) dX12_another_5 rfl rfl ?_
  refine V_iadd (pc := 6) dX12_another_6 ?_
  refine VW_ialdN (pc := 7) dX12_another_7 (by first | assumption | rfl) (j := 4 + k) (nI_add 4 k) (by omega) (by first | decide | omega) ?_
  refine V_iload_n (pc := 8) (i := 2) dX12_another_8 rfl rfl ?_
  refine V_icmp_ne (pc := 9) 17 dX12_another_9 rfl (fun c9 => ?_) (fun c9 => ?_)
  · refine V_aload_n (pc := 17) (i := 0) dX12_another_17 rfl rfl ?_
    refine VW_getI (pc := 18) dX12_another_18 fX12_192 (by first | assumption | rfl) rfl ?_
    refine V_if_eq (pc := 21) 26 dX12_another_21 rfl (fun c21 => ?_) (fun c21 => ?_)
    · refine V_aload_n (pc := 26) (i := 0) dX12_another_26 rfl rfl ?_
      refine V_V0v (pc := 27) dX12_another_27 cX12_217 (by first | assumption | rfl) (X12_step (d := 1) p hb (by omega)) (Nat.le_of_ble_eq_true rfl) (by omega) (Nat.le_of_ble_eq_true rfl) ?_
      refine V_iconst (pc := 30) (v := 1) dX12_another_30 (by decide) ?_
      exact VE_zret (pc := 31) dX12_another_31 rfl (Or.inr rfl) rfl rfl
    · exact absurd h0' c21
  · exact absurd c9 hm
end P9
