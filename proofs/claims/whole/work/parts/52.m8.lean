/-! ===== the model: fullest, toBear, years ===== -/
section M8
variable {G : xG} {d : Nat} {b : Nat} {S T U : Nat → Nat → Int32} {h0 h : xH}
def mFul (st : (Nat → Nat → Int32) → Nat → Nat → Int32) : Nat → Nat → Int32 → Int32 → (Nat → Nat → Int32) → Int32 × Int32
  | 0, _, x, y, _ => (x, y)
  | m + 1, k, x, y, T => if y < bcI (st T 0 33) then mFul st m (k + 1) (nI k) (bcI (st T 0 33)) (st T) else mFul st m (k + 1) x y (st T)
theorem X12_fullest {n pp r bb k v : Nat} (ci : MI S n pp r bb) (po : PO S pp) (hk1 : 1 ≤ k) (hk : k ≤ 60) (hv : v ≤ 1) (hb : gB G ≤ b) (hd : 9 ≤ d) : VM G mX12_fullest d 0 0 [.ref (b + 0), .int (nI k), .int (nI v)] (xE (some (.int (if nI v = 0 then (mFul (mSun n r pp bb) k 1 (-1) (-1) (mP (up2 S 0 2 0))).1 else (mFul (mSun n r pp bb) k 1 (-1) (-1) (mP (up2 S 0 2 0))).2))) (wH G b tbM (mBk (mSunN n r pp bb k (mP (up2 S 0 2 0)))) h0)) (wH G b tbM S h0) := by
  have ciT := ci.cz (j := 2) (x := 0) (by decide)
  have poT := po.cz (j := 2) (x := 0)
  have h8 : pp ≤ 8 := ci.2.2.2.2.1
  refine VM_start (ls := [some (.ref (b + 0)), some (.int (nI k)), some (.int (nI v)), none, none, none]) rfl ?_
  -- %m X12_fullest
  have h1i : inR (nI k) 1 60 = true := inR_ok (l := 1) (m := 60) (by omega) (by omega) (by decide)
  have loop : ∀ (m i : Nat) (x y : Int32) (U : Nat → Nat → Int32), m + i = k + 1 → MI U n pp r bb → PO U pp → V G mX12_fullest d 0 0 (xE (some (.int (if nI v = 0 then (mFul (mSun n r pp bb) m i x y U).1 else (mFul (mSun n r pp bb) m i x y U).2))) (wH G b tbM (mBk (mSunN n r pp bb m U)) h0)) 55 [some (.ref (b + 0)), some (.int (nI k)), some (.int (nI v)), some (.int x), some (.int y), some (.int (nI i))] [] (wH G b tbM U h0) := by
    intro m
    induction m with
    | zero =>
      intro i x y U hm hU pU
      refine V_iload (pc := 55) dX12_fullest_55 rfl ?_
      refine V_iload_n (pc := 57) (i := 1) dX12_fullest_57 rfl rfl ?_
      refine V_icmp_gt (pc := 58) 98 dX12_fullest_58 rfl (fun c58 => ?_) (fun c58 => ?_)
      · refine V_aload_n (pc := 98) (i := 0) dX12_fullest_98 rfl rfl ?_
        refine V_aload_n (pc := 99) (i := 0) dX12_fullest_99 rfl rfl ?_
        refine VW_getR (pc := 100) dX12_fullest_100 fX12_99 (by first | assumption | rfl) rfl ?_
        refine V_iconst (pc := 103) (v := 0) dX12_fullest_103 (by decide) ?_
        refine V_V2v (pc := 104) dX12_fullest_104 cX12_407 (by first | assumption | rfl) (X12_unpackP (d := 0) hb) (Nat.le_of_ble_eq_true rfl) (by omega) (Nat.le_of_ble_eq_true rfl) ?_
        refine V_iload_n (pc := 107) (i := 2) dX12_fullest_107 rfl rfl ?_
        refine V_if_ne (pc := 108) 115 dX12_fullest_108 rfl (fun c108 => ?_) (fun c108 => ?_)
        · rw [if_neg c108]
          refine V_iload (pc := 115) dX12_fullest_115 rfl ?_
          exact VE_iret (pc := 117) dX12_fullest_117 rfl rfl rfl
        · rw [if_pos c108]
          refine V_iload_n (pc := 111) (i := 3) dX12_fullest_111 rfl rfl ?_
          refine V_goto (pc := 112) 117 dX12_fullest_112 rfl ?_
          exact VE_iret (pc := 117) dX12_fullest_117 rfl rfl rfl
      · exact absurd (nI_lt (by omega) (by omega)) c58
    | succ m ih =>
      intro i x y U hm hU pU
      rw [mFul, mSunN]
      obtain ⟨c, hc, ec⟩ := mSun_33 (S := U) (n := n) (r := r) (bb := bb) h8
      refine V_iload (pc := 55) dX12_fullest_55 rfl ?_
      refine V_iload_n (pc := 57) (i := 1) dX12_fullest_57 rfl rfl ?_
      refine V_icmp_gt (pc := 58) 98 dX12_fullest_58 rfl (fun c58 => ?_) (fun c58 => ?_)
      · exact absurd c58 (nI_nlt (by omega) (by omega))
      · refine V_aload_n (pc := 61) (i := 0) dX12_fullest_61 rfl rfl ?_
        refine V_V0v (pc := 62) dX12_fullest_62 cX12_360 (by first | assumption | rfl) (X12_aSunday (d := 7) hU pU hb (by omega)) (Nat.le_of_ble_eq_true rfl) (by omega) (Nat.le_of_ble_eq_true rfl) ?_
        refine V_aload_n (pc := 65) (i := 0) dX12_fullest_65 rfl rfl ?_
        refine VW_getI (pc := 66) dX12_fullest_66 fX12_302 (by first | assumption | rfl) rfl ?_
        refine V_S1i (pc := 69) dX12_fullest_69 cX12_357 (X12_bitsE (d := 0) ec (by omega)) (Nat.le_of_ble_eq_true rfl) (by omega) (Nat.le_of_ble_eq_true rfl) ?_
        refine V_iload (pc := 72) dX12_fullest_72 rfl ?_
        refine V_icmp_gt (pc := 74) 80 dX12_fullest_74 rfl (fun c74 => ?_) (fun c74 => ?_)
        · rw [if_pos c74]
          refine V_iload (pc := 80) dX12_fullest_80 rfl ?_
          refine V_istore_n (pc := 82) (i := 3) dX12_fullest_82 rfl (by decide) rfl ?_
          refine V_aload_n (pc := 83) (i := 0) dX12_fullest_83 rfl rfl ?_
          refine VW_getI (pc := 84) dX12_fullest_84 fX12_302 (by first | assumption | rfl) rfl ?_
          refine V_S1i (pc := 87) dX12_fullest_87 cX12_357 (X12_bitsE (d := 0) ec (by omega)) (Nat.le_of_ble_eq_true rfl) (by omega) (Nat.le_of_ble_eq_true rfl) ?_
          refine V_istore (pc := 90) dX12_fullest_90 (by decide) rfl ?_
          refine V_iinc (pc := 92) dX12_fullest_92 (by decide) rfl rfl (iincN (n := 1) (by decide)) ?_
          refine V_goto (pc := 95) 55 dX12_fullest_95 rfl ?_
          exact ih (i + 1) _ _ _ (by omega) (mSun_MI hU) (pU.same mSun_same)
        · rw [if_neg c74]
          refine V_goto (pc := 77) 92 dX12_fullest_77 rfl ?_
          refine V_iinc (pc := 92) dX12_fullest_92 (by decide) rfl rfl (iincN (n := 1) (by decide)) ?_
          refine V_goto (pc := 95) 55 dX12_fullest_95 rfl ?_
          exact ih (i + 1) _ _ _ (by omega) (mSun_MI hU) (pU.same mSun_same)
  refine V_aload_n (pc := 0) (i := 0) dX12_fullest_0 rfl rfl ?_
  refine V_iconst (pc := 1) (v := 0) dX12_fullest_1 (by decide) ?_
  refine VW_putI (pc := 2) dX12_fullest_2 fX12_139 ftX12 (fpI rfl rfl (tyX12_ok 2 (by decide))) (by first | assumption | rfl) rfl (by assumption) ?_
  generalize up2 S 0 2 0 = T at ciT poT ⊢
  obtain ⟨hn, h12, hg, hp, -⟩ := id ciT
  refine V_iload_n (pc := 5) (i := 2) dX12_fullest_5 rfl rfl ?_
  refine V_if_lt (pc := 6) 14 dX12_fullest_6 rfl (fun c6 => ?_) (fun c6 => ?_)
  · exact absurd c6 (nI_pos (by omega))
  · refine V_iload_n (pc := 9) (i := 2) dX12_fullest_9 rfl rfl ?_
    refine V_iconst (pc := 10) (v := 1) dX12_fullest_10 (by decide) ?_
    refine V_icmp_le (pc := 11) 20 dX12_fullest_11 rfl (fun c11 => ?_) (fun c11 => ?_)
    · refine V_iload_n (pc := 20) (i := 1) dX12_fullest_20 rfl rfl ?_
      refine V_i2l (pc := 21) dX12_fullest_21 rfl ?_
      refine V_lconst (pc := 22) (v := 1) dX12_fullest_22 (by decide) ?_
      refine V_ldc2 (pc := 23) dX12_fullest_23 lX12_410 ?_
      refine V_S3i (pc := 26) dX12_fullest_26 cX12_142 (X12_isInC (d := 0) _ (l' := 1) (m' := 60) (by decide) (by decide)) (Nat.le_of_ble_eq_true rfl) (by omega) (Nat.le_of_ble_eq_true rfl) ?_
      refine V_if_ne (pc := 29) 38 dX12_fullest_29 rfl (fun c29 => ?_) (fun c29 => ?_)
      · refine V_aload_n (pc := 38) (i := 0) dX12_fullest_38 rfl rfl ?_
        refine V_aload_n (pc := 39) (i := 0) dX12_fullest_39 rfl rfl ?_
        refine VW_getR (pc := 40) dX12_fullest_40 fX12_99 (by first | assumption | rfl) rfl ?_
        refine V_iconst (pc := 43) (v := 0) dX12_fullest_43 (by decide) ?_
        refine V_V2v (pc := 44) dX12_fullest_44 cX12_387 (by first | assumption | rfl) (X12_packP (d := 0) hb) (Nat.le_of_ble_eq_true rfl) (by omega) (Nat.le_of_ble_eq_true rfl) ?_
        refine V_iconst (pc := 47) (v := -1) dX12_fullest_47 (by decide) ?_
        refine V_istore_n (pc := 48) (i := 3) dX12_fullest_48 rfl (by decide) rfl ?_
        refine V_iconst (pc := 49) (v := -1) dX12_fullest_49 (by decide) ?_
        refine V_istore (pc := 50) dX12_fullest_50 (by decide) rfl ?_
        refine V_iconst (pc := 52) (v := 1) dX12_fullest_52 (by decide) ?_
        refine V_istore (pc := 53) dX12_fullest_53 (by decide) rfl ?_
        exact loop k 1 _ _ _ rfl (mP_MI ciT) (poT.same mP_same)
      · rw [h1i] at c29; exact absurd c29 (by decide)
    · exact absurd (nI_le (b := 1) (by omega) (by decide)) c11
/-- whether nobody waits in m SUNDAYS -/
def mSom (st : (Nat → Nat → Int32) → Nat → Nat → Int32) : Nat → (Nat → Nat → Int32) → Bool × (Nat → Nat → Int32)
  | 0, T => (true, T)
  | m + 1, T => if st T 0 40 = st T 0 33 then mSom st m (st T) else (false, st T)
def mBear (n r pp k : Nat) : Nat → Nat → (Nat → Nat → Int32) → Int32 × (Nat → Nat → Int32)
  | 0, _, S => (-1, S)
  | m + 1, v, S => if (mSom (mSun n r pp v) k (up2 S 0 35 (nI v))).1 then (nI v, mBk (mSom (mSun n r pp v) k (up2 S 0 35 (nI v))).2) else mBear n r pp k m (v + 1) (mBk (mSom (mSun n r pp v) k (up2 S 0 35 (nI v))).2)
theorem unL_off {g : Nat → Int32} {a k : Nat} (h : k < 16 ∨ 19 < k) : ∀ (m p : Nat) (S : Nat → Nat → Int32), unL g a m p S k = S k := by
  intro m
  induction m with
  | zero => intro p S; rfl
  | succ m ih => intro p S; rw [unL, ih]; simp (disch := omega) only [up2_row]
theorem unR_off {g : Nat → Int32} {a k : Nat} (h : k < 16 ∨ 19 < k) (h0 : k ≠ 0) : unR g a S k = S k := by
  unfold unR
  rw [unL_off h]
  simp (disch := omega) only [up2_row]
theorem unR_0 {g : Nat → Int32} {a j : Nat} (h : j < 32 ∨ 35 < j) : unR g a S 0 j = S 0 j := by
  unfold unR
  rw [unL_off (by omega)]
  simp (disch := omega) only [up2_col]
theorem unR_b {g : Nat → Int32} {a : Nat} : unR g a S 0 32 = g a ∧ unR g a S 0 33 = g (a + 1) ∧ unR g a S 0 34 = g (a + 2) ∧ unR g a S 0 35 = g (a + 3) := by
  unfold unR
  rw [unL_off (by omega)]
  refine ⟨?_, ?_, ?_, ?_⟩ <;> simp (disch := omega) only [up2_col, up2_same]
theorem unL_in {g : Nat → Int32} {a : Nat} : ∀ (m p : Nat) (S : Nat → Nat → Int32) (q : Nat), (q < p → unL g a m p S 16 q = S 16 q ∧ unL g a m p S 17 q = S 17 q ∧ unL g a m p S 18 q = S 18 q ∧ unL g a m p S 19 q = S 19 q) ∧ (p ≤ q → q < p + m → unL g a m p S 16 q = g (a + 4 + q) ∧ unL g a m p S 17 q = g (a + (4 + 8) + q) ∧ unL g a m p S 18 q = g (a + (4 + 16) + q) ∧ unL g a m p S 19 q = g (a + (4 + 24) + q)) := by
  intro m
  induction m with
  | zero => intro p S q; exact ⟨fun _ => ⟨rfl, rfl, rfl, rfl⟩, fun h1 h2 => by omega⟩
  | succ m ih =>
    intro p S q
    rw [unL]
    refine ⟨fun h => ?_, fun h1 h2 => ?_⟩
    · obtain ⟨k, -⟩ := ih (p + 1) (up2 (up2 (up2 (up2 S 16 p (g (a + 4 + p))) 17 p (g (a + (4 + 8) + p))) 18 p (g (a + (4 + 16) + p))) 19 p (g (a + (4 + 24) + p))) q
      obtain ⟨k1, k2, k3, k4⟩ := k (by omega)
      rw [k1, k2, k3, k4]
      refine ⟨?_, ?_, ?_, ?_⟩ <;> simp (disch := omega) only [up2_row, up2_col]
    · obtain ⟨k, k'⟩ := ih (p + 1) (up2 (up2 (up2 (up2 S 16 p (g (a + 4 + p))) 17 p (g (a + (4 + 8) + p))) 18 p (g (a + (4 + 16) + p))) 19 p (g (a + (4 + 24) + p))) q
      by_cases e : q = p
      · subst e
        obtain ⟨k1, k2, k3, k4⟩ := k (by omega)
        rw [k1, k2, k3, k4]
        refine ⟨?_, ?_, ?_, ?_⟩ <;> simp (disch := omega) only [up2_row, up2_same]
      · exact k' (by omega) (by omega)
theorem unR_in {g : Nat → Int32} {a q : Nat} (hq : q < 8) : unR g a S 16 q = g (a + 4 + q) ∧ unR g a S 17 q = g (a + (4 + 8) + q) ∧ unR g a S 18 q = g (a + (4 + 16) + q) ∧ unR g a S 19 q = g (a + (4 + 24) + q) := (unL_in 8 0 _ q).2 (by omega) (by omega)
theorem updS {f : Nat → Int32} {j : Nat} {x : Int32} : upd f j x j = x := by simp [upd]
theorem updN {f : Nat → Int32} {j j' : Nat} {x : Int32} (h : j' ≠ j) : upd f j x j' = f j' := by simp [upd, h]
theorem pkL_lo {a : Nat} : ∀ (m p : Nat) (f : Nat → Int32) (j : Nat), j < a + 4 ∨ a + 36 ≤ j → p + m ≤ 8 → pkL S a m p f j = f j := by
  intro m
  induction m with
  | zero => intro p f j _ _; rfl
  | succ m ih =>
    intro p f j h hp
    rw [pkL, ih _ _ _ h (by omega)]
    simp only [upd]
    repeat rw [if_neg (by omega)]
theorem pkL_in {a : Nat} : ∀ (m p : Nat) (f : Nat → Int32) (q : Nat), p + m = 8 → (q < p → pkL S a m p f (a + 4 + q) = f (a + 4 + q) ∧ pkL S a m p f (a + (4 + 8) + q) = f (a + (4 + 8) + q) ∧ pkL S a m p f (a + (4 + 16) + q) = f (a + (4 + 16) + q) ∧ pkL S a m p f (a + (4 + 24) + q) = f (a + (4 + 24) + q)) ∧ (p ≤ q → q < 8 → pkL S a m p f (a + 4 + q) = S 16 q ∧ pkL S a m p f (a + (4 + 8) + q) = S 17 q ∧ pkL S a m p f (a + (4 + 16) + q) = S 18 q ∧ pkL S a m p f (a + (4 + 24) + q) = S 19 q) := by
  intro m
  induction m with
  | zero => intro p f q _; exact ⟨fun _ => ⟨rfl, rfl, rfl, rfl⟩, fun h1 h2 => by omega⟩
  | succ m ih =>
    intro p f q hp
    rw [pkL]
    refine ⟨fun h => ?_, fun h1 h2 => ?_⟩
    · obtain ⟨k, -⟩ := ih (p + 1) (upd (upd (upd (upd f (a + 4 + p) (S 16 p)) (a + (4 + 8) + p) (S 17 p)) (a + (4 + 16) + p) (S 18 p)) (a + (4 + 24) + p) (S 19 p)) q (by omega)
      obtain ⟨k1, k2, k3, k4⟩ := k (by omega)
      rw [k1, k2, k3, k4]
      refine ⟨?_, ?_, ?_, ?_⟩ <;> (simp only [upd]; repeat rw [if_neg (by omega)])
    · obtain ⟨k, k'⟩ := ih (p + 1) (upd (upd (upd (upd f (a + 4 + p) (S 16 p)) (a + (4 + 8) + p) (S 17 p)) (a + (4 + 16) + p) (S 18 p)) (a + (4 + 24) + p) (S 19 p)) q (by omega)
      by_cases e : q = p
      · subst e
        obtain ⟨k1, k2, k3, k4⟩ := k (by omega)
        rw [k1, k2, k3, k4]
        refine ⟨?_, ?_, ?_, ?_⟩ <;> simp (disch := omega) only [updN, updS]
      · exact k' (by omega) h2
theorem pkR_in {a q : Nat} {f : Nat → Int32} (hq : q < 8) : pkR S a f (a + 4 + q) = S 16 q ∧ pkR S a f (a + (4 + 8) + q) = S 17 q ∧ pkR S a f (a + (4 + 16) + q) = S 18 q ∧ pkR S a f (a + (4 + 24) + q) = S 19 q := (pkL_in 8 0 _ q rfl).2 (by omega) hq
theorem pkR_b {a : Nat} {f : Nat → Int32} : pkR S a f a = S 0 32 ∧ pkR S a f (a + 1) = S 0 33 ∧ pkR S a f (a + 2) = S 0 34 ∧ pkR S a f (a + 3) = S 0 35 := by
  unfold pkR
  refine ⟨?_, ?_, ?_, ?_⟩ <;> rw [pkL_lo 8 0 _ _ (by omega) (by omega)] <;> simp (disch := omega) only [updN, updS]
theorem pkR_off {a j : Nat} {f : Nat → Int32} (h : j < a ∨ a + 36 ≤ j) : pkR S a f j = f j := by
  unfold pkR
  rw [pkL_lo 8 0 _ _ (by omega) (by omega)]
  simp only [upd]
  repeat rw [if_neg (by omega)]
/-- the row 23 holds the state of T -/
def Kpt (T X : Nat → Nat → Int32) : Prop := (∀ k, 3 ≤ k → k ≤ 15 → X k = T k) ∧ X 23 = pkR T 0 (T 23)
theorem mP_Kpt : Kpt T (mP T) := ⟨fun k h1 h2 => upR_row (by omega), upR_same⟩
theorem Kpt.step {X : Nat → Nat → Int32} (h : Kpt T X) (h1 : ∀ k, 3 ≤ k → k ≤ 15 → U k = X k) (h2 : U 23 = X 23) : Kpt T U := ⟨fun k a c => (h1 k a c).trans (h.1 k a c), h2.trans h.2⟩
theorem Kpt.sun {X : Nat → Nat → Int32} {n r pp bb : Nat} (h : Kpt T X) : Kpt T (mSun n r pp bb X) := h.step (fun k _ _ => mSun_off (by omega) (by omega) (by omega) (by omega) (by omega)) (mSun_off (by omega) (by omega) (by omega) (by omega) (by omega))
theorem Kpt.bk {X : Nat → Nat → Int32} (h : Kpt T X) : Kpt T (mBk X) := h.step (fun k _ _ => unR_off (by omega) (by omega)) (unR_off (by omega) (by omega))
theorem Kpt.MI {X : Nat → Nat → Int32} {n pp r bb : Nat} (h : Kpt T X) (ci : MI T n pp r bb) : MI (mBk X) n pp r bb := ci.same (fun k h1 h2 => h.bk.1 k h1 (by omega)) (by
  unfold mBk
  rw [unR_b.2.2.2, h.2]
  exact pkR_b.2.2.2)
theorem Kpt.PO {X : Nat → Nat → Int32} {pp : Nat} (h : Kpt T X) (h8 : pp ≤ 8) (po : PO T pp) : PO (mBk X) pp := by
  intro q hq
  unfold mBk
  rw [(unR_in (show q < 8 by omega)).1, (unR_in (show q < 8 by omega)).2.1, h.2, (pkR_in (show q < 8 by omega)).1, (pkR_in (show q < 8 by omega)).2.1]
  exact po q hq
theorem mSom_Kpt {X : Nat → Nat → Int32} {n r pp v : Nat} : ∀ (m : Nat) (X : Nat → Nat → Int32), Kpt T X → Kpt T (mSom (mSun n r pp v) m X).2 := by
  intro m
  induction m with
  | zero => intro X h; exact h
  | succ m ih =>
    intro X h
    rw [mSom]
    split
    · exact ih _ h.sun
    · exact h.sun
theorem X12_toBear {n pp r bb k : Nat} (ci : MI S n pp r bb) (po : PO S pp) (hk : k ≤ 60) (hb : gB G ≤ b) (hd : 9 ≤ d) : VM G mX12_toBear d 0 0 [.ref (b + 0), .int (nI k)] (xE (some (.int (mBear n r pp k 8 1 (mP (up2 S 0 2 0))).1)) (wH G b tbM (mBear n r pp k 8 1 (mP (up2 S 0 2 0))).2 h0)) (wH G b tbM S h0) := by
  have ciT := ci.cz (j := 2) (x := 0) (by decide)
  have poT := po.cz (j := 2) (x := 0)
  have h8 : pp ≤ 8 := ci.2.2.2.2.1
  refine VM_start (ls := [some (.ref (b + 0)), some (.int (nI k)), none, none, none, none]) rfl ?_
  -- %m X12_toBear
  have h1i : inR (nI k) 0 60 = true := inR_ok (l := 0) (m := 60) (by omega) (by omega) (by decide)
  have inner : ∀ (m i v : Nat) (U : Nat → Nat → Int32) (Q : xR → xH → Prop), m + i = k → MI U n pp r v → PO U pp → (V G mX12_toBear d 0 0 Q 97 [some (.ref (b + 0)), some (.int (nI k)), some (.int (-1)), some (.int (nI v)), some (.int (b2i (mSom (mSun n r pp v) m U).1)), none] [] (wH G b tbM (mSom (mSun n r pp v) m U).2 h0)) → V G mX12_toBear d 0 0 Q 58 [some (.ref (b + 0)), some (.int (nI k)), some (.int (-1)), some (.int (nI v)), some (.int 1), some (.int (nI i))] [] (wH G b tbM U h0) := by
    intro m
    induction m with
    | zero =>
      intro i v U Q hm hU pU kk
      refine V_iload (pc := 58) dX12_toBear_58 rfl ?_
      refine V_iload_n (pc := 60) (i := 1) dX12_toBear_60 rfl rfl ?_
      refine V_icmp_ge (pc := 61) 97 dX12_toBear_61 rfl (fun c61 => ?_) (fun c61 => ?_)
      · exact V_forget 5 kk
      · exact absurd (by rw [show i = k by omega]; exact nI_le (by omega) (by omega)) c61
    | succ m ih =>
      intro i v U Q hm hU pU kk
      rw [mSom] at kk
      refine V_iload (pc := 58) dX12_toBear_58 rfl ?_
      refine V_iload_n (pc := 60) (i := 1) dX12_toBear_60 rfl rfl ?_
      refine V_icmp_ge (pc := 61) 97 dX12_toBear_61 rfl (fun c61 => ?_) (fun c61 => ?_)
      · exact absurd c61 (nI_ge (by omega) (by omega))
      · refine V_iload (pc := 64) dX12_toBear_64 rfl ?_
        refine V_if_eq (pc := 66) 97 dX12_toBear_66 rfl (fun c66 => ?_) (fun c66 => ?_)
        · exact absurd c66 (by decide)
        · refine V_aload_n (pc := 69) (i := 0) dX12_toBear_69 rfl rfl ?_
          refine V_V0v (pc := 70) dX12_toBear_70 cX12_360 (by first | assumption | rfl) (X12_aSunday (d := 7) hU pU hb (by omega)) (Nat.le_of_ble_eq_true rfl) (by omega) (Nat.le_of_ble_eq_true rfl) ?_
          refine V_aload_n (pc := 73) (i := 0) dX12_toBear_73 rfl rfl ?_
          refine VW_getI (pc := 74) dX12_toBear_74 fX12_348 (by first | assumption | rfl) rfl ?_
          refine V_aload_n (pc := 77) (i := 0) dX12_toBear_77 rfl rfl ?_
          refine VW_getI (pc := 78) dX12_toBear_78 fX12_302 (by first | assumption | rfl) rfl ?_
          refine V_icmp_ne (pc := 81) 88 dX12_toBear_81 rfl (fun c81 => ?_) (fun c81 => ?_)
          · rw [if_neg c81] at kk
            refine V_iconst (pc := 88) (v := 0) dX12_toBear_88 (by decide) ?_
            refine V_istore (pc := 89) dX12_toBear_89 (by decide) rfl ?_
            refine V_iinc (pc := 91) dX12_toBear_91 (by decide) rfl rfl (iincN (n := 1) (by decide)) ?_
            refine V_goto (pc := 94) 58 dX12_toBear_94 rfl ?_
            refine V_iload (pc := 58) dX12_toBear_58 rfl ?_
            refine V_iload_n (pc := 60) (i := 1) dX12_toBear_60 rfl rfl ?_
            refine V_icmp_ge (pc := 61) 97 dX12_toBear_61 rfl (fun c61b => ?_) (fun c61b => ?_)
            · exact V_forget 5 kk
            · refine V_iload (pc := 64) dX12_toBear_64 rfl ?_
              refine V_if_eq (pc := 66) 97 dX12_toBear_66 rfl (fun c66b => ?_) (fun c66b => ?_)
              · exact V_forget 5 kk
              · exact absurd rfl c66b
          · rw [if_pos c81] at kk
            refine V_iconst (pc := 84) (v := 1) dX12_toBear_84 (by decide) ?_
            refine V_goto (pc := 85) 89 dX12_toBear_85 rfl ?_
            refine V_istore (pc := 89) dX12_toBear_89 (by decide) rfl ?_
            refine V_iinc (pc := 91) dX12_toBear_91 (by decide) rfl rfl (iincN (n := 1) (by decide)) ?_
            refine V_goto (pc := 94) 58 dX12_toBear_94 rfl ?_
            exact ih (i + 1) v _ Q (by omega) (mSun_MI hU) (pU.same mSun_same) kk
  have loop : ∀ (m v : Nat) (T X : Nat → Nat → Int32), m + v = 9 → Kpt T X → MI T n pp r bb → PO T pp → MI X n pp r bb → PO X pp → V G mX12_toBear d 0 0 (xE (some (.int (mBear n r pp k m v X).1)) (wH G b tbM (mBear n r pp k m v X).2 h0)) 36 [some (.ref (b + 0)), some (.int (nI k)), some (.int (-1)), some (.int (nI v)), none, none] [] (wH G b tbM X h0) := by
    intro m
    induction m with
    | zero =>
      intro v T X hm kp ciT poT ciX poX
      refine V_iload_n (pc := 36) (i := 3) dX12_toBear_36 rfl rfl ?_
      refine V_bipush (pc := 37) (v := 8) dX12_toBear_37 (by decide) ?_
      refine V_icmp_gt (pc := 39) 119 dX12_toBear_39 rfl (fun c39 => ?_) (fun c39 => ?_)
      · refine V_iload_n (pc := 119) (i := 2) dX12_toBear_119 rfl rfl ?_
        exact VE_iret (pc := 120) dX12_toBear_120 rfl rfl rfl
      · exact absurd (by rw [show v = 9 by omega]; decide) c39
    | succ m ih =>
      intro v T X hm kp ciT poT ciX poX
      rw [mBear]
      have ciV : MI (up2 X 0 35 (nI v)) n pp r v := by
        obtain ⟨hn, h12, hg, hp, h8, hr, h7, hw, hbb, hb8⟩ := id ciX
        refine ⟨?_, h12, ?_, ?_, h8, ?_, h7, ?_, up2_same, by omega⟩ <;> rw [up2_row (by decide)] <;> assumption
      have kpV : Kpt T (up2 X 0 35 (nI v)) := kp.step (fun k _ _ => up2_row (by omega)) (up2_row (by decide))
      have kpE := mSom_Kpt (X := X) (n := n) (r := r) (pp := pp) (v := v) k _ kpV
      refine V_iload_n (pc := 36) (i := 3) dX12_toBear_36 rfl rfl ?_
      refine V_bipush (pc := 37) (v := 8) dX12_toBear_37 (by decide) ?_
      refine V_icmp_gt (pc := 39) 119 dX12_toBear_39 rfl (fun c39 => ?_) (fun c39 => ?_)
      · exact absurd c39 (nI_nlt (a := 8) (by omega) (by decide))
      · refine V_iload_n (pc := 42) (i := 2) dX12_toBear_42 rfl rfl ?_
        refine V_iconst (pc := 43) (v := -1) dX12_toBear_43 (by decide) ?_
        refine V_icmp_ne (pc := 44) 119 dX12_toBear_44 rfl (fun c44 => ?_) (fun c44 => ?_)
        · exact absurd rfl c44
        · refine V_aload_n (pc := 47) (i := 0) dX12_toBear_47 rfl rfl ?_
          refine V_iload_n (pc := 48) (i := 3) dX12_toBear_48 rfl rfl ?_
          refine VW_putI (pc := 49) dX12_toBear_49 fX12_136 ftX12 (fpI rfl rfl (tyX12_ok 35 (by decide))) (by first | assumption | rfl) rfl (by assumption) ?_
          refine V_iconst (pc := 52) (v := 1) dX12_toBear_52 (by decide) ?_
          refine V_istore (pc := 53) dX12_toBear_53 (by decide) rfl ?_
          refine V_iconst (pc := 55) (v := 0) dX12_toBear_55 (by decide) ?_
          refine V_istore (pc := 56) dX12_toBear_56 (by decide) rfl ?_
          refine inner k 0 v _ _ rfl ciV poX.cz ?_
          refine V_iload (pc := 97) dX12_toBear_97 rfl ?_
          refine V_if_eq (pc := 99) 104 dX12_toBear_99 rfl (fun c99 => ?_) (fun c99 => ?_)
          · rw [if_neg (by rw [b2i_0.mp c99]; decide)]
            refine V_aload_n (pc := 104) (i := 0) dX12_toBear_104 rfl rfl ?_
            refine V_aload_n (pc := 105) (i := 0) dX12_toBear_105 rfl rfl ?_
            refine VW_getR (pc := 106) dX12_toBear_106 fX12_99 (by first | assumption | rfl) rfl ?_
            refine V_iconst (pc := 109) (v := 0) dX12_toBear_109 (by decide) ?_
            refine V_V2v (pc := 110) dX12_toBear_110 cX12_407 (by first | assumption | rfl) (X12_unpackP (d := 0) hb) (Nat.le_of_ble_eq_true rfl) (by omega) (Nat.le_of_ble_eq_true rfl) ?_
            refine V_iinc (pc := 113) dX12_toBear_113 (by decide) rfl rfl (iincN (n := 1) (by decide)) ?_
            refine V_goto (pc := 116) 36 dX12_toBear_116 rfl ?_
            exact V_forget 4 (V_forget 5 (ih (v + 1) T _ (by omega) kpE.bk ciT poT (kpE.MI ciT) (kpE.PO h8 poT)))
          · rw [if_pos (b2i_n0.mp c99)]
            refine V_iload_n (pc := 102) (i := 3) dX12_toBear_102 rfl rfl ?_
            refine V_istore_n (pc := 103) (i := 2) dX12_toBear_103 rfl (by decide) rfl ?_
            refine V_aload_n (pc := 104) (i := 0) dX12_toBear_104 rfl rfl ?_
            refine V_aload_n (pc := 105) (i := 0) dX12_toBear_105 rfl rfl ?_
            refine VW_getR (pc := 106) dX12_toBear_106 fX12_99 (by first | assumption | rfl) rfl ?_
            refine V_iconst (pc := 109) (v := 0) dX12_toBear_109 (by decide) ?_
            refine V_V2v (pc := 110) dX12_toBear_110 cX12_407 (by first | assumption | rfl) (X12_unpackP (d := 0) hb) (Nat.le_of_ble_eq_true rfl) (by omega) (Nat.le_of_ble_eq_true rfl) ?_
            refine V_iinc (pc := 113) dX12_toBear_113 (by decide) rfl rfl (iincN (n := 1) (by decide)) ?_
            refine V_goto (pc := 116) 36 dX12_toBear_116 rfl ?_
            refine V_iload_n (pc := 36) (i := 3) dX12_toBear_36 rfl rfl ?_
            refine V_bipush (pc := 37) (v := 8) dX12_toBear_37 (by decide) ?_
            refine V_icmp_gt (pc := 39) 119 dX12_toBear_39 rfl (fun c39b => ?_) (fun c39b => ?_)
            · refine V_iload_n (pc := 119) (i := 2) dX12_toBear_119 rfl rfl ?_
              exact VE_iret (pc := 120) dX12_toBear_120 rfl rfl rfl
            · refine V_iload_n (pc := 42) (i := 2) dX12_toBear_42 rfl rfl ?_
              refine V_iconst (pc := 43) (v := -1) dX12_toBear_43 (by decide) ?_
              refine V_icmp_ne (pc := 44) 119 dX12_toBear_44 rfl (fun c44b => ?_) (fun c44b => ?_)
              · refine V_iload_n (pc := 119) (i := 2) dX12_toBear_119 rfl rfl ?_
                exact VE_iret (pc := 120) dX12_toBear_120 rfl rfl rfl
              · exact absurd c44b (nI_m1 (by omega))
  refine V_aload_n (pc := 0) (i := 0) dX12_toBear_0 rfl rfl ?_
  refine V_iconst (pc := 1) (v := 0) dX12_toBear_1 (by decide) ?_
  refine VW_putI (pc := 2) dX12_toBear_2 fX12_139 ftX12 (fpI rfl rfl (tyX12_ok 2 (by decide))) (by first | assumption | rfl) rfl (by assumption) ?_
  generalize up2 S 0 2 0 = T at ciT poT ⊢
  refine V_iload_n (pc := 5) (i := 1) dX12_toBear_5 rfl rfl ?_
  refine V_i2l (pc := 6) dX12_toBear_6 rfl ?_
  refine V_lconst (pc := 7) (v := 0) dX12_toBear_7 (by decide) ?_
  refine V_ldc2 (pc := 8) dX12_toBear_8 lX12_410 ?_
  refine V_S3i (pc := 11) dX12_toBear_11 cX12_142 (X12_isInC (d := 0) _ (l' := 0) (m' := 60) (by decide) (by decide)) (Nat.le_of_ble_eq_true rfl) (by omega) (Nat.le_of_ble_eq_true rfl) ?_
  refine V_if_ne (pc := 14) 23 dX12_toBear_14 rfl (fun c14 => ?_) (fun c14 => ?_)
  · refine V_aload_n (pc := 23) (i := 0) dX12_toBear_23 rfl rfl ?_
    refine V_aload_n (pc := 24) (i := 0) dX12_toBear_24 rfl rfl ?_
    refine VW_getR (pc := 25) dX12_toBear_25 fX12_99 (by first | assumption | rfl) rfl ?_
    refine V_iconst (pc := 28) (v := 0) dX12_toBear_28 (by decide) ?_
    refine V_V2v (pc := 29) dX12_toBear_29 cX12_387 (by first | assumption | rfl) (X12_packP (d := 0) hb) (Nat.le_of_ble_eq_true rfl) (by omega) (Nat.le_of_ble_eq_true rfl) ?_
    refine V_iconst (pc := 32) (v := -1) dX12_toBear_32 (by decide) ?_
    refine V_istore_n (pc := 33) (i := 2) dX12_toBear_33 rfl (by decide) rfl ?_
    refine V_iconst (pc := 34) (v := 1) dX12_toBear_34 (by decide) ?_
    refine V_istore_n (pc := 35) (i := 3) dX12_toBear_35 rfl (by decide) rfl ?_
    exact loop 8 1 T _ rfl mP_Kpt ciT poT (mP_MI ciT) (poT.same mP_same)
  · rw [h1i] at c14; exact absurd c14 (by decide)
theorem b_32767 (i : Nat) : bt 32767 i = decide (i < 15) := by
  by_cases h : i < 32
  · revert i; decide +kernel
  · rw [b_big (by omega), decide_eq_false (by omega)]
theorem drw_s (x : Int32) : (x >>> ((16 : Int32) &&& 31)) &&& 32767 = nI (drw x) := by
  have e : ushr x 16 &&& 32767 = nI (drw x) := pk_and _ 15 (by decide)
  rw [← e]
  refine b_ext (fun i hi => ?_)
  rw [b_and, b_and, b_32767]
  by_cases h : i < 15
  · rw [show bt (x >>> ((16 : Int32) &&& 31)) i = _ from b_sshr 16 (by decide) x hi, show bt (ushr x 16) i = _ from b_ushr 16 (by decide) x i, if_pos (by omega)]
  · rw [decide_eq_false h, Bool.and_false, Bool.and_false]
theorem X12_drawOf {N : Nat} (h1 : 1 ≤ N) (h2 : N < 100) (hb : gB G ≤ b) : VM G mX12_drawOf d 0 0 [.ref (b + 0), .int (nI N)] (xE (some (.int (nI (drw (lcg (S 0 47)) % N)))) (wH G b tbM (up2 S 0 47 (lcg (S 0 47))) h0)) (wH G b tbM S h0) := by
  refine VM_start (ls := [some (.ref (b + 0)), some (.int (nI N))]) rfl ?_
  have hlt : drw (lcg (S 0 47)) < 2 ^ 15 := Nat.mod_lt _ (by decide)
  -- %m X12_drawOf
  refine V_aload_n (pc := 0) (i := 0) dX12_drawOf_0 rfl rfl ?_
  refine V_aload_n (pc := 1) (i := 0) dX12_drawOf_1 rfl rfl ?_
  refine VW_getI (pc := 2) dX12_drawOf_2 fX12_433 (by first | assumption | rfl) rfl ?_
  refine V_ldcw (pc := 5) dX12_drawOf_5 lX12_436 ?_
  refine V_imul (pc := 8) dX12_drawOf_8 ?_
  refine V_sipush (pc := 9) (v := 12345) dX12_drawOf_9 (by decide) ?_
  refine V_iadd (pc := 12) dX12_drawOf_12 ?_
  refine VW_putI (pc := 13) dX12_drawOf_13 fX12_433 ftX12 (fpI rfl rfl (tyX12_ok 47 (by decide))) (by first | assumption | rfl) rfl (by assumption) ?_
  show V G mX12_drawOf d 0 0 _ 16 _ _ (wH G b tbM (up2 S 0 47 (lcg (S 0 47))) h0)
  refine V_aload_n (pc := 16) (i := 0) dX12_drawOf_16 rfl rfl ?_
  refine VW_getI (pc := 17) dX12_drawOf_17 fX12_433 (by first | assumption | rfl) rfl ?_
  rw [up2_same]
  refine V_bipush (pc := 20) (v := 16) dX12_drawOf_20 (by decide) ?_
  refine V_ishr (pc := 22) dX12_drawOf_22 ?_
  refine V_sipush (pc := 23) (v := 32767) dX12_drawOf_23 (by decide) ?_
  refine V_iand (pc := 26) dX12_drawOf_26 ?_
  rw [drw_s]
  refine V_iload_n (pc := 27) (i := 1) dX12_drawOf_27 rfl rfl ?_
  refine V_irem (pc := 28) dX12_drawOf_28 (nI_ne0 (by omega) (by omega)) ?_
  rw [pk_rem (by omega) (by omega) (by omega)]
  exact VE_iret (pc := 29) dX12_drawOf_29 rfl rfl rfl
/-- something happens to somebody -/
def mSmt (T : Nat → Nat → Int32) (pp : Nat) : Nat → Nat → Int32 :=
  if 2 < drw (lcg (T 0 47)) % 6 ∨ pp = 0 then up2 T 0 47 (lcg (T 0 47)) else
  if nI (drw (lcg (T 0 47)) % 6) = 0 then up2 (up2 T 0 47 (lcg (lcg (lcg (T 0 47))))) 16 (drw (lcg (lcg (T 0 47))) % pp) (T 16 (drw (lcg (lcg (T 0 47))) % pp) ||| 1 <<< (nI (drw (lcg (lcg (lcg (T 0 47)))) % 10) &&& 31))
  else if nI (drw (lcg (T 0 47)) % 6) = 1 then up2 (up2 T 0 47 (lcg (lcg (lcg (T 0 47))))) 16 (drw (lcg (lcg (T 0 47))) % pp) (T 16 (drw (lcg (lcg (T 0 47))) % pp) &&& (1 <<< (nI (drw (lcg (lcg (lcg (T 0 47)))) % 10) &&& 31) ^^^ -1))
  else up2 (up2 T 0 47 (lcg (lcg (lcg (T 0 47))))) 17 (drw (lcg (lcg (T 0 47))) % pp) (nI (drw (lcg (lcg (lcg (T 0 47)))) % 10))
theorem X12_something {pp : Nat} (hp : T 3 0 = nI pp) (h8 : pp ≤ 8) (hb : gB G ≤ b) (hd : 1 ≤ d) : VM G mX12_something d 0 0 [.ref (b + 0)] (xE none (wH G b tbM (mSmt T pp) h0)) (wH G b tbM T h0) := by
  refine VM_start (ls := [some (.ref (b + 0)), none, none, none]) rfl ?_
  have hk : drw (lcg (T 0 47)) % 6 < 6 := Nat.mod_lt _ (by decide)
  unfold mSmt
  -- %m X12_something
  refine V_aload_n (pc := 0) (i := 0) dX12_something_0 rfl rfl ?_
  refine V_bipush (pc := 1) (v := 6) dX12_something_1 (by decide) ?_
  refine V_V1i (pc := 3) dX12_something_3 cX12_437 (by first | assumption | rfl) (X12_drawOf (N := 6) (d := 0) (by decide) (by decide) hb) (Nat.le_of_ble_eq_true rfl) (by omega) (Nat.le_of_ble_eq_true rfl) ?_
  refine V_istore_n (pc := 6) (i := 1) dX12_something_6 rfl (by decide) rfl ?_
  refine V_iload_n (pc := 7) (i := 1) dX12_something_7 rfl rfl ?_
  refine V_iconst (pc := 8) (v := 2) dX12_something_8 (by decide) ?_
  refine V_icmp_gt (pc := 9) 21 dX12_something_9 rfl (fun c9 => ?_) (fun c9 => ?_)
  · have q : 2 < drw (lcg (T 0 47)) % 6 := Nat.not_le.mp (fun q => nI_nlt (a := 2) q (by omega) c9)
    rw [if_pos (Or.inl q)]
    exact VE_vret (pc := 21) dX12_something_21 rfl rfl
  have q2 : ¬ 2 < drw (lcg (T 0 47)) % 6 := fun q => c9 (nI_lt (a := 2) q (by omega))
  refine V_aload_n (pc := 12) (i := 0) dX12_something_12 rfl rfl ?_
  refine VW_getR (pc := 13) dX12_something_13 fX12_36 (by first | assumption | rfl) rfl ?_
  refine V_iconst (pc := 16) (v := 0) dX12_something_16 (by decide) ?_
  refine VW_ialdN (pc := 17) dX12_something_17 (by first | assumption | rfl) (j := 0) rfl (by decide) (by first | decide | omega) ?_
  rw [up2_row (by decide), hp]
  refine V_if_ne (pc := 18) 22 dX12_something_18 rfl (fun c18 => ?_) (fun c18 => ?_)
  · have hp0 : pp ≠ 0 := fun q => c18 (by rw [q]; rfl)
    have hq : drw (lcg (lcg (T 0 47))) % pp < pp := Nat.mod_lt _ (by omega)
    rw [if_neg (fun q => q.elim q2 hp0)]
    refine V_aload_n (pc := 22) (i := 0) dX12_something_22 rfl rfl ?_
    refine V_aload_n (pc := 23) (i := 0) dX12_something_23 rfl rfl ?_
    refine VW_getR (pc := 24) dX12_something_24 fX12_36 (by first | assumption | rfl) rfl ?_
    refine V_iconst (pc := 27) (v := 0) dX12_something_27 (by decide) ?_
    refine VW_ialdN (pc := 28) dX12_something_28 (by first | assumption | rfl) (j := 0) rfl (by decide) (by first | decide | omega) ?_
    rw [up2_row (by decide), hp]
    refine V_V1i (pc := 29) dX12_something_29 cX12_437 (by first | assumption | rfl) (X12_drawOf (N := pp) (d := 0) (by omega) (by omega) hb) (Nat.le_of_ble_eq_true rfl) (by omega) (Nat.le_of_ble_eq_true rfl) ?_
    rw [up2_same, up2_up2]
    refine V_istore_n (pc := 32) (i := 2) dX12_something_32 rfl (by decide) rfl ?_
    refine V_aload_n (pc := 33) (i := 0) dX12_something_33 rfl rfl ?_
    refine V_bipush (pc := 34) (v := 10) dX12_something_34 (by decide) ?_
    refine V_V1i (pc := 36) dX12_something_36 cX12_437 (by first | assumption | rfl) (X12_drawOf (N := 10) (d := 0) (by decide) (by decide) hb) (Nat.le_of_ble_eq_true rfl) (by omega) (Nat.le_of_ble_eq_true rfl) ?_
    rw [up2_same, up2_up2]
    generalize drw (lcg (lcg (T 0 47))) % pp = q at hq ⊢
    refine V_istore_n (pc := 39) (i := 3) dX12_something_39 rfl (by decide) rfl ?_
    refine V_iload_n (pc := 40) (i := 1) dX12_something_40 rfl rfl ?_
    refine V_if_ne (pc := 41) 56 dX12_something_41 rfl (fun c41 => ?_) (fun c41 => ?_)
    · rw [if_neg c41]
      refine V_iload_n (pc := 56) (i := 1) dX12_something_56 rfl rfl ?_
      refine V_iconst (pc := 57) (v := 1) dX12_something_57 (by decide) ?_
      refine V_icmp_ne (pc := 58) 75 dX12_something_58 rfl (fun c58 => ?_) (fun c58 => ?_)
      · rw [if_neg c58]
        have e2 : nI (drw (lcg (T 0 47)) % 6) = 2 := by
          have a0 : drw (lcg (T 0 47)) % 6 ≠ 0 := fun z => c41 (by rw [z]; rfl)
          have a1 : drw (lcg (T 0 47)) % 6 ≠ 1 := fun z => c58 (by rw [z]; rfl)
          rw [show drw (lcg (T 0 47)) % 6 = 2 by omega]
          rfl
        refine V_iload_n (pc := 75) (i := 1) dX12_something_75 rfl rfl ?_
        refine V_iconst (pc := 76) (v := 2) dX12_something_76 (by decide) ?_
        refine V_icmp_ne (pc := 77) 87 dX12_something_77 rfl (fun c77 => ?_) (fun c77 => ?_)
        · exact absurd e2 c77
        · refine V_aload_n (pc := 80) (i := 0) dX12_something_80 rfl rfl ?_
          refine VW_getR (pc := 81) dX12_something_81 fX12_83 (by first | assumption | rfl) rfl ?_
          refine V_iload_n (pc := 84) (i := 2) dX12_something_84 rfl rfl ?_
          refine V_iload_n (pc := 85) (i := 3) dX12_something_85 rfl rfl ?_
          refine VW_iastN (pc := 86) dX12_something_86 (by first | assumption | rfl) (by assumption) rfl (by omega) (by first | decide | omega) ?_
          exact VE_vret (pc := 87) dX12_something_87 rfl rfl
      · rw [if_pos c58]
        refine V_aload_n (pc := 61) (i := 0) dX12_something_61 rfl rfl ?_
        refine VW_getR (pc := 62) dX12_something_62 fX12_80 (by first | assumption | rfl) rfl ?_
        refine V_iload_n (pc := 65) (i := 2) dX12_something_65 rfl rfl ?_
        refine V_dup2 (pc := 66) dX12_something_66 rfl rfl ?_
        refine VW_ialdN (pc := 67) dX12_something_67 (by first | assumption | rfl) rfl (by omega) (by first | decide | omega) ?_
        rw [up2_row (by decide)]
        refine V_iconst (pc := 68) (v := 1) dX12_something_68 (by decide) ?_
        refine V_iload_n (pc := 69) (i := 3) dX12_something_69 rfl rfl ?_
        refine V_ishl (pc := 70) dX12_something_70 ?_
        refine V_iconst (pc := 71) (v := -1) dX12_something_71 (by decide) ?_
        refine V_ixor (pc := 72) dX12_something_72 ?_
        refine V_iand (pc := 73) dX12_something_73 ?_
        refine VW_iastN (pc := 74) dX12_something_74 (by first | assumption | rfl) (by assumption) rfl (by omega) (by first | decide | omega) ?_
        refine V_iload_n (pc := 75) (i := 1) dX12_something_75 rfl rfl ?_
        refine V_iconst (pc := 76) (v := 2) dX12_something_76 (by decide) ?_
        refine V_icmp_ne (pc := 77) 87 dX12_something_77 rfl (fun c77 => ?_) (fun c77 => ?_)
        · exact VE_vret (pc := 87) dX12_something_87 rfl rfl
        · exact absurd (c58.symm.trans c77) (by decide)
    · rw [if_pos c41]
      refine V_aload_n (pc := 44) (i := 0) dX12_something_44 rfl rfl ?_
      refine VW_getR (pc := 45) dX12_something_45 fX12_80 (by first | assumption | rfl) rfl ?_
      refine V_iload_n (pc := 48) (i := 2) dX12_something_48 rfl rfl ?_
      refine V_dup2 (pc := 49) dX12_something_49 rfl rfl ?_
      refine VW_ialdN (pc := 50) dX12_something_50 (by first | assumption | rfl) rfl (by omega) (by first | decide | omega) ?_
      rw [up2_row (by decide)]
      refine V_iconst (pc := 51) (v := 1) dX12_something_51 (by decide) ?_
      refine V_iload_n (pc := 52) (i := 3) dX12_something_52 rfl rfl ?_
      refine V_ishl (pc := 53) dX12_something_53 ?_
      refine V_ior (pc := 54) dX12_something_54 ?_
      refine VW_iastN (pc := 55) dX12_something_55 (by first | assumption | rfl) (by assumption) rfl (by omega) (by first | decide | omega) ?_
      refine V_iload_n (pc := 56) (i := 1) dX12_something_56 rfl rfl ?_
      refine V_iconst (pc := 57) (v := 1) dX12_something_57 (by decide) ?_
      refine V_icmp_ne (pc := 58) 75 dX12_something_58 rfl (fun c58 => ?_) (fun c58 => ?_)
      · refine V_iload_n (pc := 75) (i := 1) dX12_something_75 rfl rfl ?_
        refine V_iconst (pc := 76) (v := 2) dX12_something_76 (by decide) ?_
        refine V_icmp_ne (pc := 77) 87 dX12_something_77 rfl (fun c77 => ?_) (fun c77 => ?_)
        · exact VE_vret (pc := 87) dX12_something_87 rfl rfl
        · exact absurd (c41.symm.trans c77) (by decide)
      · exact absurd (c41.symm.trans c58) (by decide)
  · have hp0 : pp = 0 := by
      refine Classical.byContradiction fun q => ?_
      exact nI_ne0 (Nat.pos_of_ne_zero q) (by omega) c18
    rw [if_pos (Or.inr hp0)]
    exact VE_vret (pc := 21) dX12_something_21 rfl rfl
theorem mSmt_off {pp k : Nat} (h1 : k ≠ 16) (h2 : k ≠ 17) (h3 : k ≠ 0) : mSmt T pp k = T k := by
  unfold mSmt
  split
  · rw [up2_row h3]
  · split
    · rw [up2_row h1, up2_row h3]
    · split
      · rw [up2_row h1, up2_row h3]
      · rw [up2_row h2, up2_row h3]
theorem mSmt_0 {pp j : Nat} (h : j ≠ 47) : mSmt T pp 0 j = T 0 j := by
  unfold mSmt
  split
  · rw [up2_col h]
  · split
    · rw [up2_row (by decide), up2_col h]
    · split
      · rw [up2_row (by decide), up2_col h]
      · rw [up2_row (by decide), up2_col h]
theorem mSmt_MI {n pp r bb : Nat} (ci : MI T n pp r bb) : MI (mSmt T pp) n pp r bb := ci.same (fun k h1 h2 => mSmt_off (by omega) (by omega) (by omega)) (mSmt_0 (by decide))
theorem mSmt_PO {pp : Nat} (po : PO T pp) : PO (mSmt T pp) pp := by
  have h10 : drw (lcg (lcg (lcg (T 0 47)))) % 10 < 10 := Nat.mod_lt _ (by decide)
  intro q hq
  obtain ⟨⟨a, ha, ea⟩, t, ht, et⟩ := po q hq
  unfold mSmt
  generalize drw (lcg (lcg (lcg (T 0 47)))) % 10 = g at h10 ⊢
  split
  · rw [up2_row (by decide), up2_row (by decide)]; exact ⟨⟨a, ha, ea⟩, t, ht, et⟩
  · generalize drw (lcg (lcg (T 0 47))) % pp = p
    split
    · refine ⟨?_, t, ht, by rw [up2_row (by decide), up2_row (by decide)]; exact et⟩
      by_cases e : q = p
      · subst e
        rw [up2_same, ea, or_shl h10]
        exact ⟨_, or_lt ha h10, rfl⟩
      · rw [up2_col e, up2_row (by decide)]; exact ⟨a, ha, ea⟩
    · split
      · refine ⟨?_, t, ht, by rw [up2_row (by decide), up2_row (by decide)]; exact et⟩
        by_cases e : q = p
        · subst e
          rw [up2_same, ea]
          obtain ⟨c, hc, ec⟩ := and_in (a := a) (1 <<< (nI g &&& 31) ^^^ -1)
          exact ⟨c, by omega, ec⟩
        · rw [up2_col e, up2_row (by decide)]; exact ⟨a, ha, ea⟩
      · refine ⟨⟨a, ha, by rw [up2_row (by decide), up2_row (by decide)]; exact ea⟩, ?_⟩
        by_cases e : q = p
        · subst e
          rw [up2_same]
          exact ⟨g, h10, rfl⟩
        · rw [up2_col e, up2_row (by decide)]; exact ⟨t, ht, et⟩
def mYr (n pp r bb : Nat) : Nat → Int32 → (Nat → Nat → Int32) → Int32 × (Nat → Nat → Int32)
  | 0, x, T => (x, T)
  | m + 1, x, T => mYr n pp r bb m (x + bcI (mSun n r pp bb (mSmt T pp) 0 33)) (mSun n r pp bb (mSmt T pp))
def mTot (T : Nat → Nat → Int32) (v : Nat) : Nat → Nat → Int32 → Int32
  | 0, _, x => x
  | m + 1, i, x => mTot T v m (i + 1) (x + (if nI v = 1 then T 19 i else if nI v = 2 then T 18 i else 0))
theorem X12_years {n pp r bb k v : Nat} {x0 : Int32} (ci : MI S n pp r bb) (po : PO S pp) (hk : k ≤ 60) (hv : v ≤ 2) (hb : gB G ≤ b) (hd : 9 ≤ d) : VM G mX12_years d 0 0 [.ref (b + 0), .int x0, .int (nI k), .int (nI v)] (xE (some (.int (mTot (mYr n pp r bb k 0 (up2 (mP (up2 S 0 2 0)) 0 47 x0)).2 v pp 0 (if nI v = 0 then (mYr n pp r bb k 0 (up2 (mP (up2 S 0 2 0)) 0 47 x0)).1 else 0)))) (wH G b tbM (mBk (mYr n pp r bb k 0 (up2 (mP (up2 S 0 2 0)) 0 47 x0)).2) h0)) (wH G b tbM S h0) := by
  have ciT := ci.cz (j := 2) (x := 0) (by decide)
  have poT := po.cz (j := 2) (x := 0)
  have h8 : pp ≤ 8 := ci.2.2.2.2.1
  refine VM_start (ls := [some (.ref (b + 0)), some (.int x0), some (.int (nI k)), some (.int (nI v)), none, none, none]) rfl ?_
  -- %m X12_years
  have h3i : inR (nI v) 0 2 = true := inR_ok (l := 0) (m := 2) (by omega) (by omega) (by decide)
  have h2i : inR (nI k) 0 60 = true := inR_ok (l := 0) (m := 60) (by omega) (by omega) (by decide)
  have tot : ∀ (m i : Nat) (x : Int32) (U : Nat → Nat → Int32), m + i = pp → U 3 0 = nI pp → V G mX12_years d 0 0 (xE (some (.int (mTot U v m i x))) (wH G b tbM (mBk U) h0)) 108 [some (.ref (b + 0)), some (.int x0), some (.int (nI k)), some (.int (nI v)), none, some (.int x), some (.int (nI i))] [] (wH G b tbM U h0) := by
    intro m
    induction m with
    | zero =>
      intro i x U hm hp
      refine V_iload (pc := 108) dX12_years_108 rfl ?_
      refine V_aload_n (pc := 110) (i := 0) dX12_years_110 rfl rfl ?_
      refine VW_getR (pc := 111) dX12_years_111 fX12_36 (by first | assumption | rfl) rfl ?_
      refine V_iconst (pc := 114) (v := 0) dX12_years_114 (by decide) ?_
      refine VW_ialdN (pc := 115) dX12_years_115 (by first | assumption | rfl) (j := 0) rfl (by decide) (by first | decide | omega) ?_
      refine V_icmp_ge (pc := 116) 161 dX12_years_116 rfl (fun c116 => ?_) (fun c116 => ?_)
      · refine V_aload_n (pc := 161) (i := 0) dX12_years_161 rfl rfl ?_
        refine V_aload_n (pc := 162) (i := 0) dX12_years_162 rfl rfl ?_
        refine VW_getR (pc := 163) dX12_years_163 fX12_99 (by first | assumption | rfl) rfl ?_
        refine V_iconst (pc := 166) (v := 0) dX12_years_166 (by decide) ?_
        refine V_V2v (pc := 167) dX12_years_167 cX12_407 (by first | assumption | rfl) (X12_unpackP (d := 0) hb) (Nat.le_of_ble_eq_true rfl) (by omega) (Nat.le_of_ble_eq_true rfl) ?_
        refine V_iload (pc := 170) dX12_years_170 rfl ?_
        exact VE_iret (pc := 172) dX12_years_172 rfl rfl rfl
      · exact absurd (by rw [hp, show i = pp by omega]; exact nI_le (by omega) (by omega)) c116
    | succ m ih =>
      intro i x U hm hp
      rw [mTot]
      refine V_iload (pc := 108) dX12_years_108 rfl ?_
      refine V_aload_n (pc := 110) (i := 0) dX12_years_110 rfl rfl ?_
      refine VW_getR (pc := 111) dX12_years_111 fX12_36 (by first | assumption | rfl) rfl ?_
      refine V_iconst (pc := 114) (v := 0) dX12_years_114 (by decide) ?_
      refine VW_ialdN (pc := 115) dX12_years_115 (by first | assumption | rfl) (j := 0) rfl (by decide) (by first | decide | omega) ?_
      refine V_icmp_ge (pc := 116) 161 dX12_years_116 rfl (fun c116 => ?_) (fun c116 => ?_)
      · exact absurd c116 (by rw [hp]; exact nI_ge (by omega) (by omega))
      · refine V_iload (pc := 119) dX12_years_119 rfl ?_
        refine V_iload_n (pc := 121) (i := 3) dX12_years_121 rfl rfl ?_
        refine V_iconst (pc := 122) (v := 1) dX12_years_122 (by decide) ?_
        refine V_icmp_ne (pc := 123) 136 dX12_years_123 rfl (fun c123 => ?_) (fun c123 => ?_)
        · rw [if_neg c123]
          refine V_iload_n (pc := 136) (i := 3) dX12_years_136 rfl rfl ?_
          refine V_iconst (pc := 137) (v := 2) dX12_years_137 (by decide) ?_
          refine V_icmp_ne (pc := 138) 151 dX12_years_138 rfl (fun c138 => ?_) (fun c138 => ?_)
          · rw [if_neg c138]
            refine V_iconst (pc := 151) (v := 0) dX12_years_151 (by decide) ?_
            refine V_iadd (pc := 152) dX12_years_152 ?_
            refine V_istore (pc := 153) dX12_years_153 (by decide) rfl ?_
            refine V_iinc (pc := 155) dX12_years_155 (by decide) rfl rfl (iincN (n := 1) (by decide)) ?_
            refine V_goto (pc := 158) 108 dX12_years_158 rfl ?_
            exact ih (i + 1) _ U (by omega) hp
          · rw [if_pos c138]
            refine V_aload_n (pc := 141) (i := 0) dX12_years_141 rfl rfl ?_
            refine VW_getR (pc := 142) dX12_years_142 fX12_86 (by first | assumption | rfl) rfl ?_
            refine V_iload (pc := 145) dX12_years_145 rfl ?_
            refine VW_ialdN (pc := 147) dX12_years_147 (by first | assumption | rfl) rfl (by omega) (by first | decide | omega) ?_
            refine V_goto (pc := 148) 152 dX12_years_148 rfl ?_
            refine V_iadd (pc := 152) dX12_years_152 ?_
            refine V_istore (pc := 153) dX12_years_153 (by decide) rfl ?_
            refine V_iinc (pc := 155) dX12_years_155 (by decide) rfl rfl (iincN (n := 1) (by decide)) ?_
            refine V_goto (pc := 158) 108 dX12_years_158 rfl ?_
            exact ih (i + 1) _ U (by omega) hp
        · rw [if_pos c123]
          refine V_aload_n (pc := 126) (i := 0) dX12_years_126 rfl rfl ?_
          refine VW_getR (pc := 127) dX12_years_127 fX12_88 (by first | assumption | rfl) rfl ?_
          refine V_iload (pc := 130) dX12_years_130 rfl ?_
          refine VW_ialdN (pc := 132) dX12_years_132 (by first | assumption | rfl) rfl (by omega) (by first | decide | omega) ?_
          refine V_goto (pc := 133) 152 dX12_years_133 rfl ?_
          refine V_iadd (pc := 152) dX12_years_152 ?_
          refine V_istore (pc := 153) dX12_years_153 (by decide) rfl ?_
          refine V_iinc (pc := 155) dX12_years_155 (by decide) rfl rfl (iincN (n := 1) (by decide)) ?_
          refine V_goto (pc := 158) 108 dX12_years_158 rfl ?_
          exact ih (i + 1) _ U (by omega) hp
  have loop : ∀ (m i : Nat) (x : Int32) (U : Nat → Nat → Int32), m + i = k → MI U n pp r bb → PO U pp → V G mX12_years d 0 0 (xE (some (.int (mTot (mYr n pp r bb m x U).2 v pp 0 (if nI v = 0 then (mYr n pp r bb m x U).1 else 0)))) (wH G b tbM (mBk (mYr n pp r bb m x U).2) h0)) 61 [some (.ref (b + 0)), some (.int x0), some (.int (nI k)), some (.int (nI v)), some (.int x), some (.int (nI i)), none] [] (wH G b tbM U h0) := by
    intro m
    induction m with
    | zero =>
      intro i x U hm hU pU
      refine V_iload (pc := 61) dX12_years_61 rfl ?_
      refine V_iload_n (pc := 63) (i := 2) dX12_years_63 rfl rfl ?_
      refine V_icmp_ge (pc := 64) 93 dX12_years_64 rfl (fun c64 => ?_) (fun c64 => ?_)
      · refine V_iload_n (pc := 93) (i := 3) dX12_years_93 rfl rfl ?_
        refine V_if_ne (pc := 94) 102 dX12_years_94 rfl (fun c94 => ?_) (fun c94 => ?_)
        · rw [if_neg c94]
          refine V_iconst (pc := 102) (v := 0) dX12_years_102 (by decide) ?_
          refine V_istore (pc := 103) dX12_years_103 (by decide) rfl ?_
          refine V_iconst (pc := 105) (v := 0) dX12_years_105 (by decide) ?_
          refine V_istore (pc := 106) dX12_years_106 (by decide) rfl ?_
          exact V_forget 4 (tot pp 0 _ _ rfl hU.2.2.2.1)
        · rw [if_pos c94]
          refine V_iload (pc := 97) dX12_years_97 rfl ?_
          refine V_goto (pc := 99) 103 dX12_years_99 rfl ?_
          refine V_istore (pc := 103) dX12_years_103 (by decide) rfl ?_
          refine V_iconst (pc := 105) (v := 0) dX12_years_105 (by decide) ?_
          refine V_istore (pc := 106) dX12_years_106 (by decide) rfl ?_
          exact V_forget 4 (tot pp 0 _ _ rfl hU.2.2.2.1)
      · exact absurd (by rw [show i = k by omega]; exact nI_le (by omega) (by omega)) c64
    | succ m ih =>
      intro i x U hm hU pU
      rw [mYr]
      obtain ⟨c, hc, ec⟩ := mSun_33 (S := mSmt U pp) (n := n) (r := r) (bb := bb) h8
      refine V_iload (pc := 61) dX12_years_61 rfl ?_
      refine V_iload_n (pc := 63) (i := 2) dX12_years_63 rfl rfl ?_
      refine V_icmp_ge (pc := 64) 93 dX12_years_64 rfl (fun c64 => ?_) (fun c64 => ?_)
      · exact absurd c64 (nI_ge (by omega) (by omega))
      · refine V_aload_n (pc := 67) (i := 0) dX12_years_67 rfl rfl ?_
        refine V_V0v (pc := 68) dX12_years_68 cX12_440 (by first | assumption | rfl) (X12_something (d := 1) hU.2.2.2.1 h8 hb (by omega)) (Nat.le_of_ble_eq_true rfl) (by omega) (Nat.le_of_ble_eq_true rfl) ?_
        refine V_aload_n (pc := 71) (i := 0) dX12_years_71 rfl rfl ?_
        refine V_V0v (pc := 72) dX12_years_72 cX12_360 (by first | assumption | rfl) (X12_aSunday (d := 7) (mSmt_MI hU) (mSmt_PO pU) hb (by omega)) (Nat.le_of_ble_eq_true rfl) (by omega) (Nat.le_of_ble_eq_true rfl) ?_
        refine V_iload (pc := 75) dX12_years_75 rfl ?_
        refine V_aload_n (pc := 77) (i := 0) dX12_years_77 rfl rfl ?_
        refine VW_getI (pc := 78) dX12_years_78 fX12_302 (by first | assumption | rfl) rfl ?_
        refine V_S1i (pc := 81) dX12_years_81 cX12_357 (X12_bitsE (d := 0) ec (by omega)) (Nat.le_of_ble_eq_true rfl) (by omega) (Nat.le_of_ble_eq_true rfl) ?_
        refine V_iadd (pc := 84) dX12_years_84 ?_
        refine V_istore (pc := 85) dX12_years_85 (by decide) rfl ?_
        refine V_iinc (pc := 87) dX12_years_87 (by decide) rfl rfl (iincN (n := 1) (by decide)) ?_
        refine V_goto (pc := 90) 61 dX12_years_90 rfl ?_
        exact ih (i + 1) _ _ (by omega) (mSun_MI (mSmt_MI hU)) ((mSmt_PO pU).same mSun_same)
  refine V_aload_n (pc := 0) (i := 0) dX12_years_0 rfl rfl ?_
  refine V_iconst (pc := 1) (v := 0) dX12_years_1 (by decide) ?_
  refine VW_putI (pc := 2) dX12_years_2 fX12_139 ftX12 (fpI rfl rfl (tyX12_ok 2 (by decide))) (by first | assumption | rfl) rfl (by assumption) ?_
  generalize up2 S 0 2 0 = T at ciT poT ⊢
  obtain ⟨hn, h12, hg, hp, -⟩ := id ciT
  refine V_iload_n (pc := 5) (i := 3) dX12_years_5 rfl rfl ?_
  refine V_i2l (pc := 6) dX12_years_6 rfl ?_
  refine V_lconst (pc := 7) (v := 0) dX12_years_7 (by decide) ?_
  refine V_ldc2 (pc := 8) dX12_years_8 lX12_418 ?_
  refine V_S3i (pc := 11) dX12_years_11 cX12_142 (X12_isInC (d := 0) _ (l' := 0) (m' := 2) (by decide) (by decide)) (Nat.le_of_ble_eq_true rfl) (by omega) (Nat.le_of_ble_eq_true rfl) ?_
  refine V_if_ne (pc := 14) 23 dX12_years_14 rfl (fun c14 => ?_) (fun c14 => ?_)
  · refine V_iload_n (pc := 23) (i := 2) dX12_years_23 rfl rfl ?_
    refine V_i2l (pc := 24) dX12_years_24 rfl ?_
    refine V_lconst (pc := 25) (v := 0) dX12_years_25 (by decide) ?_
    refine V_ldc2 (pc := 26) dX12_years_26 lX12_410 ?_
    refine V_S3i (pc := 29) dX12_years_29 cX12_142 (X12_isInC (d := 0) _ (l' := 0) (m' := 60) (by decide) (by decide)) (Nat.le_of_ble_eq_true rfl) (by omega) (Nat.le_of_ble_eq_true rfl) ?_
    refine V_if_ne (pc := 32) 41 dX12_years_32 rfl (fun c32 => ?_) (fun c32 => ?_)
    · refine V_aload_n (pc := 41) (i := 0) dX12_years_41 rfl rfl ?_
      refine V_aload_n (pc := 42) (i := 0) dX12_years_42 rfl rfl ?_
      refine VW_getR (pc := 43) dX12_years_43 fX12_99 (by first | assumption | rfl) rfl ?_
      refine V_iconst (pc := 46) (v := 0) dX12_years_46 (by decide) ?_
      refine V_V2v (pc := 47) dX12_years_47 cX12_387 (by first | assumption | rfl) (X12_packP (d := 0) hb) (Nat.le_of_ble_eq_true rfl) (by omega) (Nat.le_of_ble_eq_true rfl) ?_
      refine V_aload_n (pc := 50) (i := 0) dX12_years_50 rfl rfl ?_
      refine V_iload_n (pc := 51) (i := 1) dX12_years_51 rfl rfl ?_
      refine VW_putI (pc := 52) dX12_years_52 fX12_433 ftX12 (fpI rfl rfl (tyX12_ok 47 (by decide))) (by first | assumption | rfl) rfl (by assumption) ?_
      refine V_iconst (pc := 55) (v := 0) dX12_years_55 (by decide) ?_
      refine V_istore (pc := 56) dX12_years_56 (by decide) rfl ?_
      refine V_iconst (pc := 58) (v := 0) dX12_years_58 (by decide) ?_
      refine V_istore (pc := 59) dX12_years_59 (by decide) rfl ?_
      exact loop k 0 0 _ rfl ((mP_MI ciT).cz (by decide)) (poT.same mP_same).cz
    · rw [h2i] at c32; exact absurd c32 (by decide)
  · rw [h3i] at c14; exact absurd c14 (by decide)
end M8
