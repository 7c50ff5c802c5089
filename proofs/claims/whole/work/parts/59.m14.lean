/-! ===== the model: why ===== -/
section M14
variable {G : xG} {d : Nat} {b : Nat} {S T U : Nat → Nat → Int32} {h0 h : xH}
abbrev xWh : Type := (Nat → Int32) × (Nat → Int32) × Nat
/-- how many of m are reached -/
def cN (f : Nat → Int32) : Nat → Nat
  | 0 => 0
  | m + 1 => cN f m + (if f m = -1 then 0 else 1)
theorem cN_le {f : Nat → Int32} : ∀ m, cN f m ≤ m := by
  intro m
  induction m with
  | zero => exact Nat.le_refl _
  | succ m ih => rw [cN]; split <;> omega
theorem cN_lt {f : Nat → Int32} {j : Nat} (hj : f j = -1) : ∀ m, j < m → cN f m < m := by
  intro m
  induction m with
  | zero => intro h; omega
  | succ m ih =>
    intro h
    rw [cN]
    by_cases e : j = m
    · subst e
      rw [if_pos hj]
      have := cN_le (f := f) j
      omega
    · have := ih (by omega)
      split <;> omega
theorem cN_ge {f : Nat → Int32} {j : Nat} {x : Int32} : ∀ m, m ≤ j → cN (upd f j x) m = cN f m := by
  intro m
  induction m with
  | zero => intro _; rfl
  | succ m ih => intro h; rw [cN, cN, ih (by omega), updN (by omega)]
theorem cN_upd {f : Nat → Int32} {j : Nat} {x : Int32} (hj : f j = -1) (hx : ¬ x = -1) : ∀ m, j < m → cN (upd f j x) m = cN f m + 1 := by
  intro m
  induction m with
  | zero => intro h; omega
  | succ m ih =>
    intro h
    rw [cN, cN]
    by_cases e : j = m
    · subst e
      rw [cN_ge j (by omega), updS, if_neg hx, if_pos hj]
    · rw [ih (by omega), updN (by omega)]
      omega
def whI (br : Nat → Bool) (to : Nat → Nat) (s : Nat) : Nat → Nat → xWh → xWh
  | 0, _, x => x
  | m + 1, i, x => if br i = true ∧ x.1 (to i) = -1 then whI br to s m (i + 1) (upd x.1 (to i) (x.1 s + 1), upd x.2.1 x.2.2 (nI (to i)), x.2.2 + 1) else whI br to s m (i + 1) x
def mBr (T : Nat → Nat → Int32) (s i : Nat) : Bool := brM (T 10) (T 11) (T 12) (T 9) (T 0 34) (nI s) i
def mTo (T : Nat → Nat → Int32) (s i : Nat) : Nat := (nI s ||| 1 <<< (T 12 i &&& 31)).toNatClampNeg
def whO (T : Nat → Nat → Int32) (n : Nat) (t : Int32) : Nat → Nat → xWh → Int32 × xWh
  | 0, _, x => (-1, x)
  | m + 1, j, x => if j < x.2.2 then (if hasB (x.2.1 j) t then (x.1 (x.2.1 j).toNatClampNeg, x) else whO T n t m (j + 1) (whI (mBr T (x.2.1 j).toNatClampNeg) (mTo T (x.2.1 j).toNatClampNeg) (x.2.1 j).toNatClampNeg n 0 x)) else (-1, x)
/-- line and steps fit -/
def WhI (x : xWh) : Prop := x.2.2 = cN x.1 1024 ∧ (∀ j, j < x.2.2 → ∃ s, s < 1024 ∧ x.2.1 j = nI s ∧ ¬ x.1 s = -1) ∧ ∀ j, j < 1024 → x.1 j = -1 ∨ ∃ e, e < x.2.2 ∧ x.1 j = nI e
theorem mTo_ok {n s i : Nat} (hg : GvOk (T 12) n) (hs : s < 1024) (hi : i < n) : mTo T s i < 1024 ∧ nI s ||| 1 <<< (T 12 i &&& 31) = nI (mTo T s i) := by
  obtain ⟨g, hg1, eg⟩ := hg i hi
  have h := or_lt (t := s) hs hg1
  unfold mTo
  rw [eg, or_shl hg1, nI_clamp (by omega)]
  exact ⟨h, rfl⟩
theorem WhI_put {x : xWh} {s t : Nat} (h : WhI x) (hs : s < 1024) (hs2 : ¬ x.1 s = -1) (ht : t < 1024) (h1 : x.1 t = -1) : x.2.2 < 1024 ∧ WhI (upd x.1 t (x.1 s + 1), upd x.2.1 x.2.2 (nI t), x.2.2 + 1) := by
  obtain ⟨a1, a2, a3⟩ := h
  have hlt : x.2.2 < 1024 := by rw [a1]; exact cN_lt h1 1024 ht
  obtain ⟨e, he, ee⟩ := (a3 s hs).resolve_left hs2
  have hne : ¬ x.1 s + 1 = -1 := by rw [ee, nI_1]; exact nI_m1 (by omega)
  refine ⟨hlt, ?_, ?_, ?_⟩
  · show x.2.2 + 1 = _
    rw [cN_upd h1 hne 1024 ht, a1]
  · intro j hj
    show ∃ s', s' < 1024 ∧ upd x.2.1 x.2.2 (nI t) j = nI s' ∧ ¬ upd x.1 t (x.1 s + 1) s' = -1
    by_cases q : j = x.2.2
    · subst q
      exact ⟨t, ht, updS, by rw [updS]; exact hne⟩
    · obtain ⟨s', b1, b2, b3⟩ := a2 j (by have : j < x.2.2 + 1 := hj; omega)
      refine ⟨s', b1, by rw [updN q]; exact b2, ?_⟩
      by_cases q2 : s' = t
      · subst q2; exact absurd h1 b3
      · rw [updN q2]; exact b3
  · intro j hj
    show upd x.1 t (x.1 s + 1) j = -1 ∨ ∃ e', e' < x.2.2 + 1 ∧ upd x.1 t (x.1 s + 1) j = nI e'
    by_cases q : j = t
    · subst q
      exact Or.inr ⟨e + 1, by omega, by rw [updS, ee, nI_1]⟩
    · rw [updN q]
      rcases a3 j hj with b | ⟨e', b1, b2⟩
      · exact Or.inl b
      · exact Or.inr ⟨e', by omega, b2⟩
theorem cN_0 {f : Nat → Int32} : ∀ m, (∀ j, j < m → f j = -1) → cN f m = 0 := by
  intro m
  induction m with
  | zero => intro _; rfl
  | succ m ih => intro h; rw [cN, ih (fun j hj => h j (by omega)), if_pos (h m (by omega))]
theorem whI_ok {n s : Nat} (hg : GvOk (T 12) n) (hs : s < 1024) : ∀ (m i : Nat) (x : xWh), m + i = n → WhI x → ¬ x.1 s = -1 → WhI (whI (mBr T s) (mTo T s) s m i x) ∧ x.2.2 ≤ (whI (mBr T s) (mTo T s) s m i x).2.2 := by
  intro m
  induction m with
  | zero => intro i x _ h _; exact ⟨h, Nat.le_refl _⟩
  | succ m ih =>
    intro i x hm h hs2
    rw [whI]
    split
    · next q =>
      obtain ⟨k1, k2⟩ := WhI_put h hs hs2 (mTo_ok hg hs (by omega)).1 q.2
      have hs3 : ¬ upd x.1 (mTo T s i) (x.1 s + 1) s = -1 := by
        by_cases e : s = mTo T s i
        · exact absurd (by rw [e]; exact q.2) hs2
        · rw [updN e]; exact hs2
      obtain ⟨c1, c2⟩ := ih (i + 1) (upd x.1 (mTo T s i) (x.1 s + 1), upd x.2.1 x.2.2 (nI (mTo T s i)), x.2.2 + 1) (by omega) k2 hs3
      exact ⟨c1, Nat.le_trans (Nat.le_succ _) c2⟩
    · exact ih (i + 1) x (by omega) h hs2
def whH (T : Nat → Nat → Int32) (x : xWh) : Nat → Nat → Int32 := upR (upR T 24 x.1) 25 x.2.1
theorem whH_24 {x : xWh} : whH T x 24 = x.1 := by unfold whH; rw [upR_row (by decide), upR_same]
theorem whH_25 {x : xWh} : whH T x 25 = x.2.1 := by unfold whH; rw [upR_same]
theorem whH_off {x : xWh} {k : Nat} (h1 : k ≠ 24) (h2 : k ≠ 25) : whH T x k = T k := by unfold whH; rw [upR_row h2, upR_row h1]
theorem whH_p24 {x : xWh} {j : Nat} {v : Int32} : up2 (whH T x) 24 j v = whH T (upd x.1 j v, x.2) := by
  funext k
  by_cases e : k = 24
  · subst e
    rw [whH_24]
    funext q
    by_cases e2 : q = j
    · subst e2; rw [up2_same]; exact updS.symm
    · rw [up2_col e2, whH_24]; exact (updN e2).symm
  · rw [up2_row e]
    by_cases e2 : k = 25
    · subst e2; rw [whH_25, whH_25]
    · rw [whH_off e e2, whH_off e e2]
theorem whH_p25 {x : xWh} {j : Nat} {v : Int32} : up2 (whH T x) 25 j v = whH T (x.1, upd x.2.1 j v, x.2.2) := by
  unfold whH
  rw [up2_upR]
theorem whH_k {x y : xWh} (h1 : x.1 = y.1) (h2 : x.2.1 = y.2.1) : whH T x = whH T y := by unfold whH; rw [h1, h2]
theorem whH_same {x : xWh} : mSame T (whH T x) := ⟨fun k h1 h2 => whH_off (by omega) (by omega), by rw [whH_off (by decide) (by decide)]⟩
theorem X12_bringsU {i : Nat} (hU : mSame T U) (hi : i < 12) (t : Int32) (hd : 1 ≤ d) : VM G mX12_brings d 0 0 [.ref (b + 0), .int (nI i), .int t] (xE (some (.int (b2i (brM (T 10) (T 11) (T 12) (T 9) (T 0 34) t i)))) (wH G b tbM U h0)) (wH G b tbM U h0) := by
  rw [← hU.1 10 (by decide) (by decide), ← hU.1 11 (by decide) (by decide), ← hU.1 12 (by decide) (by decide), ← hU.1 9 (by decide) (by decide), ← hU.2]
  exact X12_brings hi t hd
theorem X12_why {n pp r bb a t : Nat} (ci : MI S n pp r bb) (ha : a ≤ 1023) (ht : t < 10) (hb : gB G ≤ b) (hd : 5 ≤ d) : VM G mX12_why d 0 0 [.ref (b + 0), .int (nI a), .int (nI t)] (xE (some (.int (whO (up2 S 0 2 0) n (nI t) 1025 0 (upd (fillR (S 24) (-1) 0 1024) a 0, upd (S 25) 0 (nI a), 1)).1)) (wH G b tbM (whH (up2 S 0 2 0) (whO (up2 S 0 2 0) n (nI t) 1025 0 (upd (fillR (S 24) (-1) 0 1024) a 0, upd (S 25) 0 (nI a), 1)).2) h0)) (wH G b tbM S h0) := by
  have ciT := ci.cz (j := 2) (x := 0) (by decide)
  refine VM_start (ls := [some (.ref (b + 0)), some (.int (nI a)), some (.int (nI t)), none, none, none, none, none]) rfl ?_
  rw [show S 24 = up2 S 0 2 0 24 from (up2_row (by decide)).symm, show S 25 = up2 S 0 2 0 25 from (up2_row (by decide)).symm]
  -- %m X12_why
  have h2i : inR (nI t) 0 9 = true := inR_ok (l := 0) (m := 9) (by omega) (by omega) (by decide)
  have h1i : inR (nI a) 0 1023 = true := inR_ok (l := 0) (m := 1023) (by omega) (by omega) (by decide)
  refine V_aload_n (pc := 0) (i := 0) dX12_why_0 rfl rfl ?_
  refine V_iconst (pc := 1) (v := 0) dX12_why_1 (by decide) ?_
  refine VW_putI (pc := 2) dX12_why_2 fX12_139 ftX12 (fpI rfl rfl (tyX12_ok 2 (by decide))) (by first | assumption | rfl) rfl (by assumption) ?_
  generalize up2 S 0 2 0 = T at ciT ⊢
  obtain ⟨hn, h12, hg, hp, h8, -⟩ := id ciT
  refine V_iload_n (pc := 5) (i := 2) dX12_why_5 rfl rfl ?_
  refine V_S1i (pc := 6) dX12_why_6 cX12_378 (X12_isThing (d := 1) _ (by omega)) (Nat.le_of_ble_eq_true rfl) (by omega) (Nat.le_of_ble_eq_true rfl) ?_
  refine V_if_ne (pc := 9) 18 dX12_why_9 rfl (fun c9 => ?_) (fun c9 => ?_)
  · refine V_iload_n (pc := 18) (i := 1) dX12_why_18 rfl rfl ?_
    refine V_S1i (pc := 19) dX12_why_19 cX12_412 (X12_isSet (d := 1) _ (by omega)) (Nat.le_of_ble_eq_true rfl) (by omega) (Nat.le_of_ble_eq_true rfl) ?_
    refine V_if_ne (pc := 22) 31 dX12_why_22 rfl (fun c22 => ?_) (fun c22 => ?_)
    · refine V_iconst (pc := 31) (v := 0) dX12_why_31 (by decide) ?_
      refine V_istore_n (pc := 32) (i := 3) dX12_why_32 rfl (by decide) rfl ?_
      have fil : ∀ (m k : Nat) (f : Nat → Int32) (Q : xR → xH → Prop), m + k = 1024 → V G mX12_why d 0 0 Q 53 [some (.ref (b + 0)), some (.int (nI a)), some (.int (nI t)), none, none, none, none, none] [] (wH G b tbM (upR T 24 (fillR f (-1) k 1024)) h0) → V G mX12_why d 0 0 Q 33 [some (.ref (b + 0)), some (.int (nI a)), some (.int (nI t)), some (.int (nI k)), none, none, none, none] [] (wH G b tbM (upR T 24 f) h0) := by
        intro m
        induction m with
        | zero =>
          intro k f Q hm kk
          rw [show fillR f (-1) k 1024 = f from funext fun j => by unfold fillR; rw [if_neg (by omega)]] at kk
          refine V_iload_n (pc := 33) (i := 3) dX12_why_33 rfl rfl ?_
          refine V_sipush (pc := 34) (v := 1023) dX12_why_34 (by decide) ?_
          refine V_icmp_gt (pc := 37) 53 dX12_why_37 rfl (fun c37 => ?_) (fun c37 => ?_)
          · exact V_forget 3 kk
          · exact absurd (by rw [show k = 1024 by omega]; decide) c37
        | succ m ih =>
          intro k f Q hm kk
          refine V_iload_n (pc := 33) (i := 3) dX12_why_33 rfl rfl ?_
          refine V_sipush (pc := 34) (v := 1023) dX12_why_34 (by decide) ?_
          refine V_icmp_gt (pc := 37) 53 dX12_why_37 rfl (fun c37 => ?_) (fun c37 => ?_)
          · exact absurd c37 (nI_nlt (a := 1023) (by omega) (by decide))
          · refine V_aload_n (pc := 40) (i := 0) dX12_why_40 rfl rfl ?_
            refine VW_getR (pc := 41) dX12_why_41 fX12_102 (by first | assumption | rfl) rfl ?_
            refine V_iload_n (pc := 44) (i := 3) dX12_why_44 rfl rfl ?_
            refine V_iconst (pc := 45) (v := -1) dX12_why_45 (by decide) ?_
            refine VW_iastN (pc := 46) dX12_why_46 (by first | assumption | rfl) (by assumption) rfl (by omega) (by first | decide | omega) ?_
            rw [up2_upR]
            refine V_iinc (pc := 47) dX12_why_47 (by decide) rfl rfl (iincN (n := 1) (by decide)) ?_
            refine V_goto (pc := 50) 33 dX12_why_50 rfl ?_
            refine ih (k + 1) _ Q (by omega) ?_
            rw [show fillR (upd f k (-1)) (-1) (k + 1) 1024 = fillR f (-1) k 1024 from funext fun j => by
              unfold fillR
              by_cases e : j = k
              · subst e; rw [if_neg (by omega), if_pos (by omega), updS]
              · by_cases e2 : k + 1 ≤ j ∧ j < 1024
                · rw [if_pos e2, if_pos (by omega)]
                · rw [if_neg e2, if_neg (by omega), updN e]]
            exact kk
      rw [show wH G b tbM T h0 = wH G b tbM (upR T 24 (T 24)) h0 by rw [upR_self]]
      refine fil 1024 0 (T 24) _ rfl ?_
      have hf0 : ∀ j, j < 1024 → fillR (T 24) (-1) 0 1024 j = -1 := fun j hj => by unfold fillR; rw [if_pos (by omega)]
      rw [show wH G b tbM (upR T 24 (fillR (T 24) (-1) 0 1024)) h0 = wH G b tbM (whH T (fillR (T 24) (-1) 0 1024, T 25, 0)) h0 by unfold whH; rw [show T 25 = upR T 24 (fillR (T 24) (-1) 0 1024) 25 from (upR_row (by decide)).symm, upR_self]]
      have wi1 : WhI (upd (fillR (T 24) (-1) 0 1024) a 0, upd (T 25) 0 (nI a), 1) := by
        refine ⟨?_, ?_, ?_⟩
        · show 1 = cN (upd (fillR (T 24) (-1) 0 1024) a 0) 1024
          rw [cN_upd (hf0 a (by omega)) (by decide) 1024 (by omega), cN_0 1024 hf0]
        · intro j hj
          have e : j = 0 := by have : j < 1 := hj; omega
          subst e
          exact ⟨a, by omega, (show upd (T 25) 0 (nI a) 0 = nI a from updS), by show ¬ upd _ a 0 a = -1; rw [updS]; decide⟩
        · intro j hj
          by_cases e : j = a
          · subst e; exact Or.inr ⟨0, Nat.zero_lt_one, updS⟩
          · exact Or.inl (by show upd _ a 0 j = -1; rw [updN e]; exact hf0 j hj)
      refine V_aload_n (pc := 53) (i := 0) dX12_why_53 rfl rfl ?_
      refine VW_getR (pc := 54) dX12_why_54 fX12_105 (by first | assumption | rfl) rfl ?_
      refine V_iconst (pc := 57) (v := 0) dX12_why_57 (by decide) ?_
      refine V_iload_n (pc := 58) (i := 1) dX12_why_58 rfl rfl ?_
      refine VW_iastN (pc := 59) dX12_why_59 (by first | assumption | rfl) (by assumption) (j := 0) rfl (by decide) (by first | decide | omega) ?_
      rw [whH_p25]
      refine V_aload_n (pc := 60) (i := 0) dX12_why_60 rfl rfl ?_
      refine VW_getR (pc := 61) dX12_why_61 fX12_102 (by first | assumption | rfl) rfl ?_
      refine V_iload_n (pc := 64) (i := 1) dX12_why_64 rfl rfl ?_
      refine V_iconst (pc := 65) (v := 0) dX12_why_65 (by decide) ?_
      refine VW_iastN (pc := 66) dX12_why_66 (by first | assumption | rfl) (by assumption) (j := a) rfl (by omega) (by first | decide | omega) ?_
      rw [whH_p24]
      refine V_iconst (pc := 67) (v := 1) dX12_why_67 (by decide) ?_
      refine V_istore_n (pc := 68) (i := 3) dX12_why_68 rfl (by decide) rfl ?_
      refine V_iconst (pc := 69) (v := 0) dX12_why_69 (by decide) ?_
      refine V_istore (pc := 70) dX12_why_70 (by decide) rfl ?_
      show V G mX12_why d 0 0 _ _ _ _ (wH G b tbM (whH T (upd (fillR (T 24) (-1) 0 1024) a 0, upd (T 25) 0 (nI a), 1)) h0)
      have inner : ∀ (m i s j : Nat) (x : xWh) (Q : xR → xH → Prop), m + i = n → s < 1024 → WhI x → ¬ x.1 s = -1 → V G mX12_why d 0 0 Q 190 [some (.ref (b + 0)), some (.int (nI a)), some (.int (nI t)), some (.int (nI (whI (mBr T s) (mTo T s) s m i x).2.2)), some (.int (nI j)), some (.int (nI s)), none, none] [] (wH G b tbM (whH T (whI (mBr T s) (mTo T s) s m i x)) h0) → V G mX12_why d 0 0 Q 107 [some (.ref (b + 0)), some (.int (nI a)), some (.int (nI t)), some (.int (nI x.2.2)), some (.int (nI j)), some (.int (nI s)), some (.int (nI i)), none] [] (wH G b tbM (whH T x) h0) := by
        intro m
        induction m with
        | zero =>
          intro i s j x Q hm hs wi hs2 kk
          refine V_iload (pc := 107) dX12_why_107 rfl ?_
          refine V_aload_n (pc := 109) (i := 0) dX12_why_109 rfl rfl ?_
          refine VW_getR (pc := 110) dX12_why_110 fX12_36 (by first | assumption | rfl) rfl ?_
          refine V_iconst (pc := 113) (v := 1) dX12_why_113 (by decide) ?_
          refine VW_ialdN (pc := 114) dX12_why_114 (by first | assumption | rfl) (j := 1) rfl (by decide) (by first | decide | omega) ?_
          rw [whH_off (by decide) (by decide), hn]
          refine V_icmp_ge (pc := 115) 190 dX12_why_115 rfl (fun c115 => ?_) (fun c115 => ?_)
          · exact V_forget 6 kk
          · exact absurd (by rw [show i = n by omega]; exact nI_le (by omega) (by omega)) c115
        | succ m ih =>
          intro i s j x Q hm hs wi hs2 kk
          rw [whI] at kk
          obtain ⟨t1, t2⟩ := mTo_ok hg hs (show i < n by omega)
          have k10 : x.2.2 ≤ 1024 := by rw [wi.1]; exact cN_le 1024
          refine V_iload (pc := 107) dX12_why_107 rfl ?_
          refine V_aload_n (pc := 109) (i := 0) dX12_why_109 rfl rfl ?_
          refine VW_getR (pc := 110) dX12_why_110 fX12_36 (by first | assumption | rfl) rfl ?_
          refine V_iconst (pc := 113) (v := 1) dX12_why_113 (by decide) ?_
          refine VW_ialdN (pc := 114) dX12_why_114 (by first | assumption | rfl) (j := 1) rfl (by decide) (by first | decide | omega) ?_
          rw [whH_off (by decide) (by decide), hn]
          refine V_icmp_ge (pc := 115) 190 dX12_why_115 rfl (fun c115 => ?_) (fun c115 => ?_)
          · exact absurd c115 (nI_ge (by omega) (by omega))
          · refine V_iload (pc := 118) dX12_why_118 rfl ?_
            refine V_iconst (pc := 120) (v := 1) dX12_why_120 (by decide) ?_
            refine V_aload_n (pc := 121) (i := 0) dX12_why_121 rfl rfl ?_
            refine VW_getR (pc := 122) dX12_why_122 fX12_64 (by first | assumption | rfl) rfl ?_
            refine V_iload (pc := 125) dX12_why_125 rfl ?_
            refine VW_ialdN (pc := 127) dX12_why_127 (by first | assumption | rfl) rfl (by omega) (by first | decide | omega) ?_
            rw [whH_off (by decide) (by decide)]
            refine V_ishl (pc := 128) dX12_why_128 ?_
            refine V_ior (pc := 129) dX12_why_129 ?_
            rw [t2]
            refine V_istore (pc := 130) dX12_why_130 (by decide) rfl ?_
            refine V_aload_n (pc := 132) (i := 0) dX12_why_132 rfl rfl ?_
            refine V_iload (pc := 133) dX12_why_133 rfl ?_
            refine V_iload (pc := 135) dX12_why_135 rfl ?_
            refine V_V2i (pc := 137) dX12_why_137 cX12_317 (by first | assumption | rfl) (X12_bringsU (d := 1) whH_same (by omega) _ (by omega)) (Nat.le_of_ble_eq_true rfl) (by omega) (Nat.le_of_ble_eq_true rfl) ?_
            refine V_if_eq (pc := 140) 184 dX12_why_140 rfl (fun c140 => ?_) (fun c140 => ?_)
            · rw [if_neg (show ¬ (mBr T s i = true ∧ x.1 (mTo T s i) = -1) from fun q => absurd q.1 (by unfold mBr; rw [b2i_0.mp c140]; decide))] at kk
              refine V_iinc (pc := 184) dX12_why_184 (by decide) rfl rfl (iincN (n := 1) (by decide)) ?_
              refine V_goto (pc := 187) 107 dX12_why_187 rfl ?_
              exact V_forget 7 (ih (i + 1) s j x Q (by omega) hs wi hs2 kk)
            · refine V_aload_n (pc := 143) (i := 0) dX12_why_143 rfl rfl ?_
              refine VW_getR (pc := 144) dX12_why_144 fX12_102 (by first | assumption | rfl) rfl ?_
              refine V_iload (pc := 147) dX12_why_147 rfl ?_
              refine VW_ialdN (pc := 149) dX12_why_149 (by first | assumption | rfl) (j := mTo T s i) rfl (by omega) (by first | decide | omega) ?_
              refine V_iconst (pc := 150) (v := -1) dX12_why_150 (by decide) ?_
              rw [whH_24]
              refine V_icmp_eq (pc := 151) 157 dX12_why_151 rfl (fun c151 => ?_) (fun c151 => ?_)
              · rw [if_pos (show mBr T s i = true ∧ x.1 (mTo T s i) = -1 from ⟨b2i_n0.mp c140, c151⟩)] at kk
                obtain ⟨w1, w2⟩ := WhI_put wi hs hs2 t1 c151
                have hs3 : ¬ upd x.1 (mTo T s i) (x.1 s + 1) s = -1 := by
                  by_cases e : s = mTo T s i
                  · exact absurd (by rw [e]; exact c151) hs2
                  · rw [updN e]; exact hs2
                refine V_aload_n (pc := 157) (i := 0) dX12_why_157 rfl rfl ?_
                refine VW_getR (pc := 158) dX12_why_158 fX12_102 (by first | assumption | rfl) rfl ?_
                refine V_iload (pc := 161) dX12_why_161 rfl ?_
                refine V_aload_n (pc := 163) (i := 0) dX12_why_163 rfl rfl ?_
                refine VW_getR (pc := 164) dX12_why_164 fX12_102 (by first | assumption | rfl) rfl ?_
                refine V_iload (pc := 167) dX12_why_167 rfl ?_
                refine VW_ialdN (pc := 169) dX12_why_169 (by first | assumption | rfl) (j := s) rfl (by omega) (by first | decide | omega) ?_
                rw [whH_24]
                refine V_iconst (pc := 170) (v := 1) dX12_why_170 (by decide) ?_
                refine V_iadd (pc := 171) dX12_why_171 ?_
                refine VW_iastN (pc := 172) dX12_why_172 (by first | assumption | rfl) (by assumption) (j := mTo T s i) rfl (by omega) (by first | decide | omega) ?_
                rw [whH_p24]
                refine V_aload_n (pc := 173) (i := 0) dX12_why_173 rfl rfl ?_
                refine VW_getR (pc := 174) dX12_why_174 fX12_105 (by first | assumption | rfl) rfl ?_
                refine V_iload_n (pc := 177) (i := 3) dX12_why_177 rfl rfl ?_
                refine V_iload (pc := 178) dX12_why_178 rfl ?_
                refine VW_iastN (pc := 180) dX12_why_180 (by first | assumption | rfl) (by assumption) (j := x.2.2) rfl (by omega) (by first | decide | omega) ?_
                rw [whH_p25]
                show V G mX12_why d 0 0 _ _ _ _ (wH G b tbM (whH T (upd x.1 (mTo T s i) (x.1 s + 1), upd x.2.1 x.2.2 (nI (mTo T s i)), x.2.2 + 1)) h0)
                refine V_iinc (pc := 181) dX12_why_181 (by decide) rfl rfl (iincN (n := 1) (by decide)) ?_
                refine V_iinc (pc := 184) dX12_why_184 (by decide) rfl rfl (iincN (n := 1) (by decide)) ?_
                refine V_goto (pc := 187) 107 dX12_why_187 rfl ?_
                exact V_forget 7 (ih (i + 1) s j (upd x.1 (mTo T s i) (x.1 s + 1), upd x.2.1 x.2.2 (nI (mTo T s i)), x.2.2 + 1) Q (by omega) hs w2 hs3 kk)
              · rw [if_neg (show ¬ (mBr T s i = true ∧ x.1 (mTo T s i) = -1) from fun q => c151 q.2)] at kk
                refine V_goto (pc := 154) 184 dX12_why_154 rfl ?_
                refine V_iinc (pc := 184) dX12_why_184 (by decide) rfl rfl (iincN (n := 1) (by decide)) ?_
                refine V_goto (pc := 187) 107 dX12_why_187 rfl ?_
                exact V_forget 7 (ih (i + 1) s j x Q (by omega) hs wi hs2 kk)
      have loop : ∀ (m j : Nat) (x : xWh), m + j = 1025 → WhI x → j ≤ x.2.2 → V G mX12_why d 0 0 (xE (some (.int (whO T n (nI t) m j x).1)) (wH G b tbM (whH T (whO T n (nI t) m j x).2) h0)) 72 [some (.ref (b + 0)), some (.int (nI a)), some (.int (nI t)), some (.int (nI x.2.2)), some (.int (nI j)), none, none, none] [] (wH G b tbM (whH T x) h0) := by
        intro m
        induction m with
        | zero =>
          intro j x hm wi hj
          have k10 : x.2.2 ≤ 1024 := by rw [wi.1]; exact cN_le 1024
          omega
        | succ m ih =>
          intro j x hm wi hj
          have k10 : x.2.2 ≤ 1024 := by rw [wi.1]; exact cN_le 1024
          rw [whO]
          refine V_iload (pc := 72) dX12_why_72 rfl ?_
          refine V_iload_n (pc := 74) (i := 3) dX12_why_74 rfl rfl ?_
          refine V_icmp_ge (pc := 75) 196 dX12_why_75 rfl (fun c75 => ?_) (fun c75 => ?_)
          · rw [if_neg (fun q => nI_ge q (by omega) c75)]
            refine V_iconst (pc := 196) (v := -1) dX12_why_196 (by decide) ?_
            exact VE_iret (pc := 197) dX12_why_197 rfl rfl rfl
          · have hlt : j < x.2.2 := Nat.not_le.mp (fun q => c75 (nI_le q (by omega)))
            obtain ⟨s, hs, es, hs2⟩ := wi.2.1 j hlt
            rw [if_pos hlt, es]
            refine V_aload_n (pc := 78) (i := 0) dX12_why_78 rfl rfl ?_
            refine VW_getR (pc := 79) dX12_why_79 fX12_105 (by first | assumption | rfl) rfl ?_
            refine V_iload (pc := 82) dX12_why_82 rfl ?_
            refine VW_ialdN (pc := 84) dX12_why_84 (by first | assumption | rfl) (j := j) rfl (by omega) (by first | decide | omega) ?_
            rw [whH_25, es]
            refine V_istore (pc := 85) dX12_why_85 (by decide) rfl ?_
            refine V_iload (pc := 87) dX12_why_87 rfl ?_
            refine V_iload_n (pc := 89) (i := 2) dX12_why_89 rfl rfl ?_
            refine V_S2i (pc := 90) dX12_why_90 cX12_263 (X12_isOf (d := 0) _ _) (Nat.le_of_ble_eq_true rfl) (by omega) (Nat.le_of_ble_eq_true rfl) ?_
            rw [nI_clamp (show s < 2 ^ 31 by omega)]
            refine V_if_eq (pc := 93) 104 dX12_why_93 rfl (fun c93 => ?_) (fun c93 => ?_)
            · rw [if_neg (by rw [b2i_0.mp c93]; decide)]
              refine V_iconst (pc := 104) (v := 0) dX12_why_104 (by decide) ?_
              refine V_istore (pc := 105) dX12_why_105 (by decide) rfl ?_
              obtain ⟨w1, w2⟩ := whI_ok hg hs n 0 x rfl wi hs2
              refine inner n 0 s j x _ rfl hs wi hs2 ?_
              refine V_iinc (pc := 190) dX12_why_190 (by decide) rfl rfl (iincN (n := 1) (by decide)) ?_
              refine V_goto (pc := 193) 72 dX12_why_193 rfl ?_
              exact V_forget 5 (ih (j + 1) _ (by omega) w1 (by omega))
            · rw [if_pos (b2i_n0.mp c93)]
              refine V_aload_n (pc := 96) (i := 0) dX12_why_96 rfl rfl ?_
              refine VW_getR (pc := 97) dX12_why_97 fX12_102 (by first | assumption | rfl) rfl ?_
              refine V_iload (pc := 100) dX12_why_100 rfl ?_
              refine VW_ialdN (pc := 102) dX12_why_102 (by first | assumption | rfl) (j := s) rfl (by omega) (by first | decide | omega) ?_
              rw [whH_24]
              exact VE_iret (pc := 103) dX12_why_103 rfl rfl rfl
      exact loop 1025 0 (upd (fillR (T 24) (-1) 0 1024) a 0, upd (T 25) 0 (nI a), 1) rfl wi1 (Nat.zero_le _)
    · rw [h1i] at c22; exact absurd c22 (by decide)
  · rw [h2i] at c9; exact absurd c9 (by decide)
end M14
