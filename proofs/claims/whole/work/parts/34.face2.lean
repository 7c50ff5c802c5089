/-! ===== the face: SUNDAYS that go by ===== -/
section Face2
variable {G : xG} {d : Nat} {b : Nat} {S T : Nat → Nat → Int32} {h0 h : xH}
/-- m SUNDAYS -/
def wkN (s r pp bb : Nat) : Nat → (Nat → Nat → Int32) → Nat → Nat → Int32
  | 0, T => T
  | m + 1, T => wkN s r pp bb m (wkStep T s r pp bb)
theorem wkN_sm {s r pp bb : Nat} : ∀ (m : Nat) (T : Nat → Nat → Int32), Wsm s T (wkN s r pp bb m T) := by
  intro m
  induction m with
  | zero => intro T; exact Wsm.rfl'
  | succ m ih => intro T; rw [wkN]; exact Wsm.trans wkStep_sm (ih _)
/-- how often q is of those that g tells, in m SUNDAYS -/
def wkCnt (s r pp bb : Nat) (g : (Nat → Nat → Int32) → Int32) (q : Nat) : Nat → Int32 → (Nat → Nat → Int32) → Int32
  | 0, x, _ => x
  | m + 1, x, T => wkCnt s r pp bb g q m (if hasB (g (wkStep T s r pp bb)) (nI q) then x + 1 else x) (wkStep T s r pp bb)
/-- the first SUNDAY, from the k-th on, on which q crosses -/
def wkFst (s r pp bb q : Nat) : Nat → Nat → (Nat → Nat → Int32) → Int32 × (Nat → Nat → Int32)
  | 0, _, T => (-1, T)
  | m + 1, k, T => if hasB (wkStep T s r pp bb 58 7) (nI q) then (nI k, wkStep T s r pp bb) else wkFst s r pp bb q m (k + 1) (wkStep T s r pp bb)
/-- whether somebody waits in m SUNDAYS -/
def wkSom (s r pp bb : Nat) : Nat → (Nat → Nat → Int32) → Bool × (Nat → Nat → Int32)
  | 0, T => (false, T)
  | m + 1, T => if wkStep T s r pp bb 57 7 &&& (wkStep T s r pp bb 58 7 ^^^ -1) = 0 then wkSom s r pp bb m (wkStep T s r pp bb) else (true, wkStep T s r pp bb)
theorem wkSom_sm {s r pp bb : Nat} : ∀ (m : Nat) (T : Nat → Nat → Int32), Wsm s T (wkSom s r pp bb m T).2 := by
  intro m
  induction m with
  | zero => intro T; exact Wsm.rfl'
  | succ m ih =>
    intro T
    rw [wkSom]
    split
    · exact Wsm.trans wkStep_sm (ih _)
    · exact wkStep_sm
theorem wkFst_sm {s r pp bb q : Nat} : ∀ (m k : Nat) (T : Nat → Nat → Int32), Wsm s T (wkFst s r pp bb q m k T).2 := by
  intro m
  induction m with
  | zero => intro k T; exact Wsm.rfl'
  | succ m ih =>
    intro k T
    rw [wkFst]
    split
    · exact wkStep_sm
    · exact Wsm.trans wkStep_sm (ih _ _)
/-- what the bridge must bear: m from v on -/
def wkBear (s r pp n k : Nat) : Nat → Nat → (Nat → Nat → Int32) → Int32 × (Nat → Nat → Int32)
  | 0, _, S => (8, S)
  | m + 1, v, S => if (wkSom s r pp v k (up2 (wkBegin S (S 0 9) n pp) 58 5 (nI v))).1 then wkBear s r pp n k m (v + 1) (wkSom s r pp v k (up2 (wkBegin S (S 0 9) n pp) 58 5 (nI v))).2 else (nI v, (wkSom s r pp v k (up2 (wkBegin S (S 0 9) n pp) 58 5 (nI v))).2)
theorem wkBear_sm {s r pp n k : Nat} : ∀ (m v : Nat) (S : Nat → Nat → Int32), Wsm s S (wkBear s r pp n k m v S).2 := by
  intro m
  induction m with
  | zero => intro v S; exact Wsm.rfl'
  | succ m ih =>
    intro v S
    have e : Wsm s S (wkSom s r pp v k (up2 (wkBegin S (S 0 9) n pp) 58 5 (nI v))).2 := (wkBegin_sm.trans (up2_sm (by decide) (by decide))).trans (wkSom_sm _ _)
    rw [wkBear]
    split
    · exact e.trans (ih _ _)
    · exact e
/-- the fullest SUNDAY: m of them, x the one and y how full -/
def wkFul (s r pp bb : Nat) : Nat → Nat → Int32 → Int32 → (Nat → Nat → Int32) → Int32 × Int32
  | 0, _, x, y, _ => (x, y)
  | m + 1, k, x, y, T => if y < bcI (wkStep T s r pp bb 58 7) then wkFul s r pp bb m (k + 1) (nI k) (bcI (wkStep T s r pp bb 58 7)) (wkStep T s r pp bb) else wkFul s r pp bb m (k + 1) x y (wkStep T s r pp bb)
theorem X11_sundays_no {s n pp r bb : Nat} (ci : RI S s n pp r bb) {x : Int32} (hx : x < 1 ∨ 20 < x ∨ 999 < S 17 6 + x) (hb : gB G ≤ b) (hd : 1 ≤ d) : VM G mX11_sundays d 0 0 [.ref (b + 0), .int x] (xE (some (.int (-1))) (wH G b tbC (up2 S 27 1 (S 27 1 + 1)) h0)) (wH G b tbC S h0) := by
  obtain ⟨hsh, hn, h12, hg, hp, h8, hr, h7, hbb, hb8⟩ := id ci
  have hs := shC_or (S 0 9)
  have hS := tbC_shore (S 0 9)
  rw [hsh] at hs hS
  obtain ⟨a0, a1, a2, a3, a4, a5, a6, a7⟩ := id hS
  obtain ⟨i0, i1, i2, i3⟩ := id a2
  obtain ⟨r0, r1, r2⟩ := id a3
  refine VM_start (ls := [some (.ref (b + 0)), some (.int x), none]) rfl ?_
  -- %m X11_sundays
  refine V_iload_n (pc := 0) (i := 1) dX11_sundays_0 rfl rfl ?_
  refine V_iconst (pc := 1) (v := 1) dX11_sundays_1 (by decide) ?_
  refine V_icmp_lt (pc := 2) 26 dX11_sundays_2 rfl (fun c2 => ?_) (fun c2 => ?_)
  · refine V_aload_n (pc := 26) (i := 0) dX11_sundays_26 rfl rfl ?_
    refine V_V0i (pc := 27) dX11_sundays_27 cX11_226 (by first | assumption | rfl) (X11_refuseAct (d := 0) hb) (Nat.le_of_ble_eq_true rfl) (by omega) (Nat.le_of_ble_eq_true rfl) ?_
    exact VE_iret (pc := 30) dX11_sundays_30 rfl rfl rfl
  · refine V_iload_n (pc := 5) (i := 1) dX11_sundays_5 rfl rfl ?_
    refine V_bipush (pc := 6) (v := 20) dX11_sundays_6 (by decide) ?_
    refine V_icmp_gt (pc := 8) 26 dX11_sundays_8 rfl (fun c8 => ?_) (fun c8 => ?_)
    · refine V_aload_n (pc := 26) (i := 0) dX11_sundays_26 rfl rfl ?_
      refine V_V0i (pc := 27) dX11_sundays_27 cX11_226 (by first | assumption | rfl) (X11_refuseAct (d := 0) hb) (Nat.le_of_ble_eq_true rfl) (by omega) (Nat.le_of_ble_eq_true rfl) ?_
      exact VE_iret (pc := 30) dX11_sundays_30 rfl rfl rfl
    · refine V_aload_n (pc := 11) (i := 0) dX11_sundays_11 rfl rfl ?_
      refine VW_getR (pc := 12) dX11_sundays_12 fX11_19 (by first | assumption | rfl) rfl ?_
      refine VW_getI (pc := 15) dX11_sundays_15 fX11_133 (by first | assumption | rfl) rfl ?_
      refine V_iload_n (pc := 18) (i := 1) dX11_sundays_18 rfl rfl ?_
      refine V_iadd (pc := 19) dX11_sundays_19 ?_
      refine V_sipush (pc := 20) (v := 999) dX11_sundays_20 (by decide) ?_
      refine V_icmp_le (pc := 23) 31 dX11_sundays_23 rfl (fun c23 => ?_) (fun c23 => ?_)
      · exact absurd ((hx.resolve_left c2).resolve_left c8) (Int32.not_lt.mpr c23)
      · refine V_aload_n (pc := 26) (i := 0) dX11_sundays_26 rfl rfl ?_
        refine V_V0i (pc := 27) dX11_sundays_27 cX11_226 (by first | assumption | rfl) (X11_refuseAct (d := 0) hb) (Nat.le_of_ble_eq_true rfl) (by omega) (Nat.le_of_ble_eq_true rfl) ?_
        exact VE_iret (pc := 30) dX11_sundays_30 rfl rfl rfl
theorem X11_sundays_ok {s n pp r bb : Nat} (ci : RI S s n pp r bb) {k : Nat} (hk1 : 1 ≤ k) (hk : k ≤ 20) (hk9 : S 17 6 + nI k ≤ 999) {o na : Nat} (h1 : S 22 1 = nI o) (h2 : S 22 2 = nI na) (ho : o < 40) (hna : na ≤ 40) (hb : gB G ≤ b) (hd : 6 ≤ d) : VM G mX11_sundays d 0 0 [.ref (b + 0), .int (nI k)] (xE (some (.int (wkN s r pp bb k (wkBegin (actKeep S 22 17 o na) (S 0 9) n pp) 58 6))) (wH G b tbC (stCp (wkN s r pp bb k (wkBegin (actKeep S 22 17 o na) (S 0 9) n pp)) 17 58) h0)) (wH G b tbC S h0) := by
  obtain ⟨hsh, hn, h12, hg, hp, h8, hr, h7, hbb, hb8⟩ := id ci
  have hs := shC_or (S 0 9)
  have hS := tbC_shore (S 0 9)
  rw [hsh] at hs hS
  obtain ⟨a0, a1, a2, a3, a4, a5, a6, a7⟩ := id hS
  obtain ⟨i0, i1, i2, i3⟩ := id a2
  obtain ⟨r0, r1, r2⟩ := id a3
  refine VM_start (ls := [some (.ref (b + 0)), some (.int (nI k)), none]) rfl ?_
  -- %m X11_sundays
  have e9 : actKeep S 22 17 o na 0 = S 0 := actKeep_off (by decide) (by decide)
  have ci2 : RI (actKeep S 22 17 o na) s n pp r bb := by
    refine ⟨by rw [e9]; exact hsh, ?_, h12, ?_, ?_, h8, ?_, h7, ?_, hb8⟩
    all_goals rw [actKeep_off (by omega) (by omega)]
    · exact hn
    · exact hg
    · exact hp
    · exact hr
    · exact hbb
  have w0 := wkBegin_WI hs ci2
  have f2 := ci2.2.1
  have f5 := ci2.2.2.2.2.1
  have hsh2 := ci2.1
  rw [e9] at w0
  refine V_iload_n (pc := 0) (i := 1) dX11_sundays_0 rfl rfl ?_
  refine V_iconst (pc := 1) (v := 1) dX11_sundays_1 (by decide) ?_
  refine V_icmp_lt (pc := 2) 26 dX11_sundays_2 rfl (fun c2 => absurd c2 (nI_nlt (b := 1) hk1 (by omega))) (fun c2 => ?_)
  refine V_iload_n (pc := 5) (i := 1) dX11_sundays_5 rfl rfl ?_
  refine V_bipush (pc := 6) (v := 20) dX11_sundays_6 (by decide) ?_
  refine V_icmp_gt (pc := 8) 26 dX11_sundays_8 rfl (fun c8 => absurd c8 (nI_nlt (a := 20) hk (by omega))) (fun c8 => ?_)
  refine V_aload_n (pc := 11) (i := 0) dX11_sundays_11 rfl rfl ?_
  refine VW_getR (pc := 12) dX11_sundays_12 fX11_19 (by first | assumption | rfl) rfl ?_
  refine VW_getI (pc := 15) dX11_sundays_15 fX11_133 (by first | assumption | rfl) rfl ?_
  refine V_iload_n (pc := 18) (i := 1) dX11_sundays_18 rfl rfl ?_
  refine V_iadd (pc := 19) dX11_sundays_19 ?_
  refine V_sipush (pc := 20) (v := 999) dX11_sundays_20 (by decide) ?_
  refine V_icmp_le (pc := 23) 31 dX11_sundays_23 rfl (fun c23 => ?_) (fun c23 => absurd hk9 c23)
  refine V_aload_n (pc := 31) (i := 0) dX11_sundays_31 rfl rfl ?_
  refine VW_getR (pc := 32) dX11_sundays_32 fX11_26 (by first | assumption | rfl) rfl ?_
  refine V_aload_n (pc := 35) (i := 0) dX11_sundays_35 rfl rfl ?_
  refine VW_getR (pc := 36) dX11_sundays_36 fX11_19 (by first | assumption | rfl) rfl ?_
  refine V_V1v (pc := 39) dX11_sundays_39 cX11_230 (by first | assumption | rfl) (X0_keep (d := 2) tbC_22 tbC_17 (by decide) h1 h2 ho hna hb (by omega)) (Nat.le_of_ble_eq_true rfl) (by omega) (Nat.le_of_ble_eq_true rfl) ?_
  refine V_aload_n (pc := 42) (i := 0) dX11_sundays_42 rfl rfl ?_
  refine VW_getR (pc := 43) dX11_sundays_43 fX11_77 (by first | assumption | rfl) rfl ?_
  refine V_aload_n (pc := 46) (i := 0) dX11_sundays_46 rfl rfl ?_
  refine VW_getWs (pc := 47) dX11_sundays_47 fX11_68 (by first | assumption | rfl) rfl (by first | assumption | (simp (disch := omega) only [up2_row, up2_col, up2_same, upR_row]; assumption)) ?_
  refine V_aload_n (pc := 50) (i := 0) dX11_sundays_50 rfl rfl ?_
  refine VW_getR (pc := 51) dX11_sundays_51 fX11_19 (by first | assumption | rfl) rfl ?_
  refine V_V2v (pc := 54) dX11_sundays_54 cX11_219 (by first | assumption | rfl) (X10_begin2 (x := S 0 9) (d := 5) hsh f2 h12 f5 h8 hb (by omega)) (Nat.le_of_ble_eq_true rfl) (by omega) (Nat.le_of_ble_eq_true rfl) ?_
  refine V_iconst (pc := 57) (v := 0) dX11_sundays_57 (by decide) ?_
  refine V_istore_n (pc := 58) (i := 2) dX11_sundays_58 rfl (by decide) rfl ?_
  generalize wkBegin (actKeep S 22 17 o na) (S 0 9) n pp = T0 at w0
  have loop : ∀ (m i : Nat) (T : Nat → Nat → Int32), m + i = k → WI T s r pp bb → V G mX11_sundays d 0 0 (xE (some (.int (wkN s r pp bb m T 58 6))) (wH G b tbC (stCp (wkN s r pp bb m T) 17 58) h0)) 59 [some (.ref (b + 0)), some (.int (nI k)), some (.int (nI i))] [] (wH G b tbC (T) h0) := by
    intro m
    induction m with
    | zero =>
      intro i T hm w
      refine V_iload_n (pc := 59) (i := 2) dX11_sundays_59 rfl rfl ?_
      refine V_iload_n (pc := 60) (i := 1) dX11_sundays_60 rfl rfl ?_
      refine V_icmp_ge (pc := 61) 77 dX11_sundays_61 rfl (fun c61 => ?_) (fun c61 => ?_)
      · refine V_aload_n (pc := 77) (i := 0) dX11_sundays_77 rfl rfl ?_
        refine VW_getR (pc := 78) dX11_sundays_78 fX11_19 (by first | assumption | rfl) rfl ?_
        refine V_aload_n (pc := 81) (i := 0) dX11_sundays_81 rfl rfl ?_
        refine VW_getR (pc := 82) dX11_sundays_82 fX11_77 (by first | assumption | rfl) rfl ?_
        refine VW_getR (pc := 85) dX11_sundays_85 fX11_237 (by first | assumption | rfl) rfl ?_
        refine V_V1v (pc := 88) dX11_sundays_88 cX11_240 (by first | assumption | rfl) (X8_copyFrom (d := 1) tbC_17 tbC_58 (by decide) hb (by omega)) (Nat.le_of_ble_eq_true rfl) (by omega) (Nat.le_of_ble_eq_true rfl) ?_
        refine V_aload_n (pc := 91) (i := 0) dX11_sundays_91 rfl rfl ?_
        refine VW_getR (pc := 92) dX11_sundays_92 fX11_19 (by first | assumption | rfl) rfl ?_
        refine VW_getI (pc := 95) dX11_sundays_95 fX11_133 (by first | assumption | rfl) rfl ?_
        exact VE_iret (pc := 98) dX11_sundays_98 rfl (by rw [stCp, up2_col (by decide), up2_same]; rfl) rfl
      · exact absurd (by rw [show i = k by omega]; exact nI_le (by omega) (by omega)) c61
    | succ m ih =>
      intro i T hm w
      rw [wkN]
      refine V_iload_n (pc := 59) (i := 2) dX11_sundays_59 rfl rfl ?_
      refine V_iload_n (pc := 60) (i := 1) dX11_sundays_60 rfl rfl ?_
      refine V_icmp_ge (pc := 61) 77 dX11_sundays_61 rfl (fun c61 => ?_) (fun c61 => ?_)
      · exact absurd c61 (nI_ge (by omega) (by omega))
      · refine V_aload_n (pc := 64) (i := 0) dX11_sundays_64 rfl rfl ?_
        refine VW_getR (pc := 65) dX11_sundays_65 fX11_77 (by first | assumption | rfl) rfl ?_
        refine V_V0v (pc := 68) dX11_sundays_68 cX11_234 (by first | assumption | rfl) (X10_step (d := 4) w.1 w.2.1 h8 w.2.2.1 h7 w.2.2.2 hb8 hb (by omega)) (Nat.le_of_ble_eq_true rfl) (by omega) (Nat.le_of_ble_eq_true rfl) ?_
        refine V_iinc (pc := 71) dX11_sundays_71 (by decide) rfl rfl (iincN (n := 1) (by decide)) ?_
        refine V_goto (pc := 74) 59 dX11_sundays_74 rfl ?_
        exact ih (i + 1) _ (by omega) (wkStep_WI hs w)
  exact loop k 0 T0 rfl w0
theorem X11_crossing {s n pp r bb : Nat} (ci : RI S s n pp r bb) {k : Nat} (hk1 : 1 ≤ k) (hk : k ≤ 60) (hb : gB G ≤ b) (hd : 6 ≤ d) : VM G mX11_crossing d 0 0 [.ref (b + 0), .int (nI k)] (xE (some (.int (wkN s r pp bb k (wkBegin S (S 0 9) n pp) 58 7))) (wH G b tbC (wkN s r pp bb k (wkBegin S (S 0 9) n pp)) h0)) (wH G b tbC S h0) := by
  obtain ⟨hsh, hn, h12, hg, hp, h8, hr, h7, hbb, hb8⟩ := id ci
  have hs := shC_or (S 0 9)
  have hS := tbC_shore (S 0 9)
  rw [hsh] at hs hS
  obtain ⟨a0, a1, a2, a3, a4, a5, a6, a7⟩ := id hS
  obtain ⟨i0, i1, i2, i3⟩ := id a2
  obtain ⟨r0, r1, r2⟩ := id a3
  refine VM_start (ls := [some (.ref (b + 0)), some (.int (nI k)), none]) rfl ?_
  -- %m X11_crossing
  have w0 := wkBegin_WI hs ci
  refine V_iload_n (pc := 0) (i := 1) dX11_crossing_0 rfl rfl ?_
  refine V_iconst (pc := 1) (v := 1) dX11_crossing_1 (by decide) ?_
  refine V_bipush (pc := 2) (v := 60) dX11_crossing_2 (by decide) ?_
  refine V_S3v (pc := 4) dX11_crossing_4 cX11_94 (within_ok (l := 1) (m := 60) (d := 0) hk1 hk (by decide)) (Nat.le_of_ble_eq_true rfl) (by omega) (Nat.le_of_ble_eq_true rfl) ?_
  refine V_aload_n (pc := 7) (i := 0) dX11_crossing_7 rfl rfl ?_
  refine VW_getR (pc := 8) dX11_crossing_8 fX11_77 (by first | assumption | rfl) rfl ?_
  refine V_aload_n (pc := 11) (i := 0) dX11_crossing_11 rfl rfl ?_
  refine VW_getWs (pc := 12) dX11_crossing_12 fX11_68 (by first | assumption | rfl) rfl (by first | assumption | (simp (disch := omega) only [up2_row, up2_col, up2_same, upR_row]; assumption)) ?_
  refine V_aload_n (pc := 15) (i := 0) dX11_crossing_15 rfl rfl ?_
  refine VW_getR (pc := 16) dX11_crossing_16 fX11_19 (by first | assumption | rfl) rfl ?_
  refine V_V2v (pc := 19) dX11_crossing_19 cX11_219 (by first | assumption | rfl) (X10_begin2 (d := 5) hsh hn h12 hp h8 hb (by omega)) (Nat.le_of_ble_eq_true rfl) (by omega) (Nat.le_of_ble_eq_true rfl) ?_
  refine V_iconst (pc := 22) (v := 0) dX11_crossing_22 (by decide) ?_
  refine V_istore_n (pc := 23) (i := 2) dX11_crossing_23 rfl (by decide) rfl ?_
  generalize wkBegin S (S 0 9) n pp = T0 at w0
  have loop : ∀ (m i : Nat) (T : Nat → Nat → Int32), m + i = k → WI T s r pp bb → V G mX11_crossing d 0 0 (xE (some (.int (wkN s r pp bb m T 58 7))) (wH G b tbC (wkN s r pp bb m T) h0)) 24 [some (.ref (b + 0)), some (.int (nI k)), some (.int (nI i))] [] (wH G b tbC (T) h0) := by
    intro m
    induction m with
    | zero =>
      intro i T hm w
      refine V_iload_n (pc := 24) (i := 2) dX11_crossing_24 rfl rfl ?_
      refine V_iload_n (pc := 25) (i := 1) dX11_crossing_25 rfl rfl ?_
      refine V_icmp_ge (pc := 26) 42 dX11_crossing_26 rfl (fun c26 => ?_) (fun c26 => ?_)
      · refine V_aload_n (pc := 42) (i := 0) dX11_crossing_42 rfl rfl ?_
        refine VW_getR (pc := 43) dX11_crossing_43 fX11_77 (by first | assumption | rfl) rfl ?_
        refine VW_getR (pc := 46) dX11_crossing_46 fX11_237 (by first | assumption | rfl) rfl ?_
        refine VW_getI (pc := 49) dX11_crossing_49 fX11_136 (by first | assumption | rfl) rfl ?_
        exact VE_iret (pc := 52) dX11_crossing_52 rfl rfl rfl
      · exact absurd (by rw [show i = k by omega]; exact nI_le (by omega) (by omega)) c26
    | succ m ih =>
      intro i T hm w
      rw [wkN]
      refine V_iload_n (pc := 24) (i := 2) dX11_crossing_24 rfl rfl ?_
      refine V_iload_n (pc := 25) (i := 1) dX11_crossing_25 rfl rfl ?_
      refine V_icmp_ge (pc := 26) 42 dX11_crossing_26 rfl (fun c26 => ?_) (fun c26 => ?_)
      · exact absurd c26 (nI_ge (by omega) (by omega))
      · refine V_aload_n (pc := 29) (i := 0) dX11_crossing_29 rfl rfl ?_
        refine VW_getR (pc := 30) dX11_crossing_30 fX11_77 (by first | assumption | rfl) rfl ?_
        refine V_V0v (pc := 33) dX11_crossing_33 cX11_234 (by first | assumption | rfl) (X10_step (d := 4) w.1 w.2.1 h8 w.2.2.1 h7 w.2.2.2 hb8 hb (by omega)) (Nat.le_of_ble_eq_true rfl) (by omega) (Nat.le_of_ble_eq_true rfl) ?_
        refine V_iinc (pc := 36) dX11_crossing_36 (by decide) rfl rfl (iincN (n := 1) (by decide)) ?_
        refine V_goto (pc := 39) 24 dX11_crossing_39 rfl ?_
        exact ih (i + 1) _ (by omega) (wkStep_WI hs w)
  exact loop k 0 T0 rfl w0
theorem X11_then {s n pp r bb : Nat} (ci : RI S s n pp r bb) {q k v : Nat} (hq : q < pp) (hk : k ≤ 60) (hv : v ≤ 1) (hb : gB G ≤ b) (hd : 6 ≤ d) : VM G mX11_then d 0 0 [.ref (b + 0), .int (nI q), .int (nI k), .int (nI v)] (xE (some (.int (if nI v = 0 then wkN s r pp bb k (wkBegin S (S 0 9) n pp) 61 q else wkN s r pp bb k (wkBegin S (S 0 9) n pp) 62 q))) (wH G b tbC (wkN s r pp bb k (wkBegin S (S 0 9) n pp)) h0)) (wH G b tbC S h0) := by
  obtain ⟨hsh, hn, h12, hg, hp, h8, hr, h7, hbb, hb8⟩ := id ci
  have hs := shC_or (S 0 9)
  have hS := tbC_shore (S 0 9)
  rw [hsh] at hs hS
  obtain ⟨a0, a1, a2, a3, a4, a5, a6, a7⟩ := id hS
  obtain ⟨i0, i1, i2, i3⟩ := id a2
  obtain ⟨r0, r1, r2⟩ := id a3
  refine VM_start (ls := [some (.ref (b + 0)), some (.int (nI q)), some (.int (nI k)), some (.int (nI v)), none]) rfl ?_
  -- %m X11_then
  have w0 := wkBegin_WI hs ci
  refine V_aload_n (pc := 0) (i := 0) dX11_then_0 rfl rfl ?_
  refine V_iload_n (pc := 1) (i := 1) dX11_then_1 rfl rfl ?_
  refine V_V1v (pc := 2) dX11_then_2 cX11_188 (by first | assumption | rfl) (X11_mustBePerson_ok (d := 0) hsh hp h8 hq) (Nat.le_of_ble_eq_true rfl) (by omega) (Nat.le_of_ble_eq_true rfl) ?_
  refine V_iload_n (pc := 5) (i := 3) dX11_then_5 rfl rfl ?_
  refine V_iconst (pc := 6) (v := 1) dX11_then_6 (by decide) ?_
  refine V_S2v (pc := 7) dX11_then_7 cX11_247 (X11_mustBeWhat_ok (m := 1) (d := 0) hv (by decide)) (Nat.le_of_ble_eq_true rfl) (by omega) (Nat.le_of_ble_eq_true rfl) ?_
  refine V_iload_n (pc := 10) (i := 2) dX11_then_10 rfl rfl ?_
  refine V_iconst (pc := 11) (v := 0) dX11_then_11 (by decide) ?_
  refine V_bipush (pc := 12) (v := 60) dX11_then_12 (by decide) ?_
  refine V_S3v (pc := 14) dX11_then_14 cX11_94 (within_ok (l := 0) (m := 60) (d := 0) (Nat.zero_le _) hk (by decide)) (Nat.le_of_ble_eq_true rfl) (by omega) (Nat.le_of_ble_eq_true rfl) ?_
  refine V_aload_n (pc := 17) (i := 0) dX11_then_17 rfl rfl ?_
  refine VW_getR (pc := 18) dX11_then_18 fX11_77 (by first | assumption | rfl) rfl ?_
  refine V_aload_n (pc := 21) (i := 0) dX11_then_21 rfl rfl ?_
  refine VW_getWs (pc := 22) dX11_then_22 fX11_68 (by first | assumption | rfl) rfl (by first | assumption | (simp (disch := omega) only [up2_row, up2_col, up2_same, upR_row]; assumption)) ?_
  refine V_aload_n (pc := 25) (i := 0) dX11_then_25 rfl rfl ?_
  refine VW_getR (pc := 26) dX11_then_26 fX11_19 (by first | assumption | rfl) rfl ?_
  refine V_V2v (pc := 29) dX11_then_29 cX11_219 (by first | assumption | rfl) (X10_begin2 (d := 5) hsh hn h12 hp h8 hb (by omega)) (Nat.le_of_ble_eq_true rfl) (by omega) (Nat.le_of_ble_eq_true rfl) ?_
  refine V_iconst (pc := 32) (v := 0) dX11_then_32 (by decide) ?_
  refine V_istore (pc := 33) dX11_then_33 (by decide) rfl ?_
  generalize wkBegin S (S 0 9) n pp = T0 at w0
  have loop : ∀ (m i : Nat) (T : Nat → Nat → Int32), m + i = k → WI T s r pp bb → V G mX11_then d 0 0 (xE (some (.int (if nI v = 0 then wkN s r pp bb m T 61 q else wkN s r pp bb m T 62 q))) (wH G b tbC (wkN s r pp bb m T) h0)) 35 [some (.ref (b + 0)), some (.int (nI q)), some (.int (nI k)), some (.int (nI v)), some (.int (nI i))] [] (wH G b tbC (T) h0) := by
    intro m
    induction m with
    | zero =>
      intro i T hm w
      refine V_iload (pc := 35) dX11_then_35 rfl ?_
      refine V_iload_n (pc := 37) (i := 2) dX11_then_37 rfl rfl ?_
      refine V_icmp_ge (pc := 38) 54 dX11_then_38 rfl (fun c38 => ?_) (fun c38 => ?_)
      · refine V_iload_n (pc := 54) (i := 3) dX11_then_54 rfl rfl ?_
        refine V_if_ne (pc := 55) 73 dX11_then_55 rfl (fun c55 => ?_) (fun c55 => ?_)
        · refine V_aload_n (pc := 73) (i := 0) dX11_then_73 rfl rfl ?_
          refine VW_getR (pc := 74) dX11_then_74 fX11_77 (by first | assumption | rfl) rfl ?_
          refine VW_getR (pc := 77) dX11_then_77 fX11_237 (by first | assumption | rfl) rfl ?_
          refine VW_getR (pc := 80) dX11_then_80 fX11_203 (by first | assumption | rfl) rfl ?_
          refine V_iload_n (pc := 83) (i := 1) dX11_then_83 rfl rfl ?_
          refine VW_ialdN (pc := 84) dX11_then_84 (by first | assumption | rfl) rfl (by omega) (by first | decide | omega) ?_
          exact VE_iret (pc := 85) dX11_then_85 rfl (by first | (rw [if_pos c55]; rfl) | (rw [if_neg c55]; rfl)) rfl
        · refine V_aload_n (pc := 58) (i := 0) dX11_then_58 rfl rfl ?_
          refine VW_getR (pc := 59) dX11_then_59 fX11_77 (by first | assumption | rfl) rfl ?_
          refine VW_getR (pc := 62) dX11_then_62 fX11_237 (by first | assumption | rfl) rfl ?_
          refine VW_getR (pc := 65) dX11_then_65 fX11_200 (by first | assumption | rfl) rfl ?_
          refine V_iload_n (pc := 68) (i := 1) dX11_then_68 rfl rfl ?_
          refine VW_ialdN (pc := 69) dX11_then_69 (by first | assumption | rfl) rfl (by omega) (by first | decide | omega) ?_
          refine V_goto (pc := 70) 85 dX11_then_70 rfl ?_
          exact VE_iret (pc := 85) dX11_then_85 rfl (by first | (rw [if_pos c55]; rfl) | (rw [if_neg c55]; rfl)) rfl
      · exact absurd (by rw [show i = k by omega]; exact nI_le (by omega) (by omega)) c38
    | succ m ih =>
      intro i T hm w
      rw [wkN]
      refine V_iload (pc := 35) dX11_then_35 rfl ?_
      refine V_iload_n (pc := 37) (i := 2) dX11_then_37 rfl rfl ?_
      refine V_icmp_ge (pc := 38) 54 dX11_then_38 rfl (fun c38 => ?_) (fun c38 => ?_)
      · exact absurd c38 (nI_ge (by omega) (by omega))
      · refine V_aload_n (pc := 41) (i := 0) dX11_then_41 rfl rfl ?_
        refine VW_getR (pc := 42) dX11_then_42 fX11_77 (by first | assumption | rfl) rfl ?_
        refine V_V0v (pc := 45) dX11_then_45 cX11_234 (by first | assumption | rfl) (X10_step (d := 4) w.1 w.2.1 h8 w.2.2.1 h7 w.2.2.2 hb8 hb (by omega)) (Nat.le_of_ble_eq_true rfl) (by omega) (Nat.le_of_ble_eq_true rfl) ?_
        refine V_iinc (pc := 48) dX11_then_48 (by decide) rfl rfl (iincN (n := 1) (by decide)) ?_
        refine V_goto (pc := 51) 35 dX11_then_51 rfl ?_
        exact ih (i + 1) _ (by omega) (wkStep_WI hs w)
  exact loop k 0 T0 rfl w0
theorem X11_first {s n pp r bb : Nat} (ci : RI S s n pp r bb) {q : Nat} (hq : q < pp) (hb : gB G ≤ b) (hd : 6 ≤ d) : VM G mX11_first d 0 0 [.ref (b + 0), .int (nI q)] (xE (some (.int ((wkFst s r pp bb q 60 1 (wkBegin S (S 0 9) n pp)).1))) (wH G b tbC ((wkFst s r pp bb q 60 1 (wkBegin S (S 0 9) n pp)).2) h0)) (wH G b tbC S h0) := by
  obtain ⟨hsh, hn, h12, hg, hp, h8, hr, h7, hbb, hb8⟩ := id ci
  have hs := shC_or (S 0 9)
  have hS := tbC_shore (S 0 9)
  rw [hsh] at hs hS
  obtain ⟨a0, a1, a2, a3, a4, a5, a6, a7⟩ := id hS
  obtain ⟨i0, i1, i2, i3⟩ := id a2
  obtain ⟨r0, r1, r2⟩ := id a3
  refine VM_start (ls := [some (.ref (b + 0)), some (.int (nI q)), none]) rfl ?_
  -- %m X11_first
  have w0 := wkBegin_WI hs ci
  refine V_aload_n (pc := 0) (i := 0) dX11_first_0 rfl rfl ?_
  refine V_iload_n (pc := 1) (i := 1) dX11_first_1 rfl rfl ?_
  refine V_V1v (pc := 2) dX11_first_2 cX11_188 (by first | assumption | rfl) (X11_mustBePerson_ok (d := 0) hsh hp h8 hq) (Nat.le_of_ble_eq_true rfl) (by omega) (Nat.le_of_ble_eq_true rfl) ?_
  refine V_aload_n (pc := 5) (i := 0) dX11_first_5 rfl rfl ?_
  refine VW_getR (pc := 6) dX11_first_6 fX11_77 (by first | assumption | rfl) rfl ?_
  refine V_aload_n (pc := 9) (i := 0) dX11_first_9 rfl rfl ?_
  refine VW_getWs (pc := 10) dX11_first_10 fX11_68 (by first | assumption | rfl) rfl (by first | assumption | (simp (disch := omega) only [up2_row, up2_col, up2_same, upR_row]; assumption)) ?_
  refine V_aload_n (pc := 13) (i := 0) dX11_first_13 rfl rfl ?_
  refine VW_getR (pc := 14) dX11_first_14 fX11_19 (by first | assumption | rfl) rfl ?_
  refine V_V2v (pc := 17) dX11_first_17 cX11_219 (by first | assumption | rfl) (X10_begin2 (d := 5) hsh hn h12 hp h8 hb (by omega)) (Nat.le_of_ble_eq_true rfl) (by omega) (Nat.le_of_ble_eq_true rfl) ?_
  refine V_iconst (pc := 20) (v := 1) dX11_first_20 (by decide) ?_
  refine V_istore_n (pc := 21) (i := 2) dX11_first_21 rfl (by decide) rfl ?_
  generalize wkBegin S (S 0 9) n pp = T0 at w0
  have loop : ∀ (m i : Nat) (T : Nat → Nat → Int32), m + i = 61 → WI T s r pp bb → V G mX11_first d 0 0 (xE (some (.int ((wkFst s r pp bb q m i T).1))) (wH G b tbC ((wkFst s r pp bb q m i T).2) h0)) 22 [some (.ref (b + 0)), some (.int (nI q)), some (.int (nI i))] [] (wH G b tbC (T) h0) := by
    intro m
    induction m with
    | zero =>
      intro i T hm w
      refine V_iload_n (pc := 22) (i := 2) dX11_first_22 rfl rfl ?_
      refine V_bipush (pc := 23) (v := 60) dX11_first_23 (by decide) ?_
      refine V_icmp_gt (pc := 25) 60 dX11_first_25 rfl (fun c25 => ?_) (fun c25 => ?_)
      · refine V_iconst (pc := 60) (v := -1) dX11_first_60 (by decide) ?_
        exact VE_iret (pc := 61) dX11_first_61 rfl rfl rfl
      · exact absurd (by rw [show i = 61 by omega]; decide) c25
    | succ m ih =>
      intro i T hm w
      rw [wkFst]
      refine V_iload_n (pc := 22) (i := 2) dX11_first_22 rfl rfl ?_
      refine V_bipush (pc := 23) (v := 60) dX11_first_23 (by decide) ?_
      refine V_icmp_gt (pc := 25) 60 dX11_first_25 rfl (fun c25 => ?_) (fun c25 => ?_)
      · exact absurd c25 (nI_nlt (a := 60) (by omega) (by omega))
      · refine V_aload_n (pc := 28) (i := 0) dX11_first_28 rfl rfl ?_
        refine VW_getR (pc := 29) dX11_first_29 fX11_77 (by first | assumption | rfl) rfl ?_
        refine V_V0v (pc := 32) dX11_first_32 cX11_234 (by first | assumption | rfl) (X10_step (d := 4) w.1 w.2.1 h8 w.2.2.1 h7 w.2.2.2 hb8 hb (by omega)) (Nat.le_of_ble_eq_true rfl) (by omega) (Nat.le_of_ble_eq_true rfl) ?_
        refine V_iload_n (pc := 35) (i := 1) dX11_first_35 rfl rfl ?_
        refine V_aload_n (pc := 36) (i := 0) dX11_first_36 rfl rfl ?_
        refine VW_getR (pc := 37) dX11_first_37 fX11_77 (by first | assumption | rfl) rfl ?_
        refine VW_getR (pc := 40) dX11_first_40 fX11_237 (by first | assumption | rfl) rfl ?_
        refine VW_getI (pc := 43) dX11_first_43 fX11_136 (by first | assumption | rfl) rfl ?_
        refine V_S2i (pc := 46) dX11_first_46 cX11_182 (X11_isIn (d := 0) _ _) (Nat.le_of_ble_eq_true rfl) (by omega) (Nat.le_of_ble_eq_true rfl) ?_
        refine V_if_eq (pc := 49) 54 dX11_first_49 rfl (fun c49 => ?_) (fun c49 => ?_)
        · rw [if_neg (by rw [b2i_0.mp c49]; decide)]
          refine V_iinc (pc := 54) dX11_first_54 (by decide) rfl rfl (iincN (n := 1) (by decide)) ?_
          refine V_goto (pc := 57) 22 dX11_first_57 rfl ?_
          exact ih (i + 1) _ (by omega) (wkStep_WI hs w)
        · rw [if_pos (b2i_n0.mp c49)]
          refine V_iload_n (pc := 52) (i := 2) dX11_first_52 rfl rfl ?_
          exact VE_iret (pc := 53) dX11_first_53 rfl rfl rfl
  exact loop 60 1 T0 rfl w0
theorem X11_waiting {s n pp r bb : Nat} (ci : RI S s n pp r bb) {q k : Nat} (hq : q < pp) (hk : k ≤ 60) (hb : gB G ≤ b) (hd : 6 ≤ d) : VM G mX11_waiting d 0 0 [.ref (b + 0), .int (nI q), .int (nI k)] (xE (some (.int (wkCnt s r pp bb (fun T => T 57 7 &&& (T 58 7 ^^^ -1)) q k 0 (wkBegin S (S 0 9) n pp)))) (wH G b tbC (wkN s r pp bb k (wkBegin S (S 0 9) n pp)) h0)) (wH G b tbC S h0) := by
  obtain ⟨hsh, hn, h12, hg, hp, h8, hr, h7, hbb, hb8⟩ := id ci
  have hs := shC_or (S 0 9)
  have hS := tbC_shore (S 0 9)
  rw [hsh] at hs hS
  obtain ⟨a0, a1, a2, a3, a4, a5, a6, a7⟩ := id hS
  obtain ⟨i0, i1, i2, i3⟩ := id a2
  obtain ⟨r0, r1, r2⟩ := id a3
  refine VM_start (ls := [some (.ref (b + 0)), some (.int (nI q)), some (.int (nI k)), none, none]) rfl ?_
  -- %m X11_waiting
  have w0 := wkBegin_WI hs ci
  refine V_aload_n (pc := 0) (i := 0) dX11_waiting_0 rfl rfl ?_
  refine V_iload_n (pc := 1) (i := 1) dX11_waiting_1 rfl rfl ?_
  refine V_V1v (pc := 2) dX11_waiting_2 cX11_188 (by first | assumption | rfl) (X11_mustBePerson_ok (d := 0) hsh hp h8 hq) (Nat.le_of_ble_eq_true rfl) (by omega) (Nat.le_of_ble_eq_true rfl) ?_
  refine V_iload_n (pc := 5) (i := 2) dX11_waiting_5 rfl rfl ?_
  refine V_iconst (pc := 6) (v := 0) dX11_waiting_6 (by decide) ?_
  refine V_bipush (pc := 7) (v := 60) dX11_waiting_7 (by decide) ?_
  refine V_S3v (pc := 9) dX11_waiting_9 cX11_94 (within_ok (l := 0) (m := 60) (d := 0) (Nat.zero_le _) hk (by decide)) (Nat.le_of_ble_eq_true rfl) (by omega) (Nat.le_of_ble_eq_true rfl) ?_
  refine V_aload_n (pc := 12) (i := 0) dX11_waiting_12 rfl rfl ?_
  refine VW_getR (pc := 13) dX11_waiting_13 fX11_77 (by first | assumption | rfl) rfl ?_
  refine V_aload_n (pc := 16) (i := 0) dX11_waiting_16 rfl rfl ?_
  refine VW_getWs (pc := 17) dX11_waiting_17 fX11_68 (by first | assumption | rfl) rfl (by first | assumption | (simp (disch := omega) only [up2_row, up2_col, up2_same, upR_row]; assumption)) ?_
  refine V_aload_n (pc := 20) (i := 0) dX11_waiting_20 rfl rfl ?_
  refine VW_getR (pc := 21) dX11_waiting_21 fX11_19 (by first | assumption | rfl) rfl ?_
  refine V_V2v (pc := 24) dX11_waiting_24 cX11_219 (by first | assumption | rfl) (X10_begin2 (d := 5) hsh hn h12 hp h8 hb (by omega)) (Nat.le_of_ble_eq_true rfl) (by omega) (Nat.le_of_ble_eq_true rfl) ?_
  refine V_iconst (pc := 27) (v := 0) dX11_waiting_27 (by decide) ?_
  refine V_istore_n (pc := 28) (i := 3) dX11_waiting_28 rfl (by decide) rfl ?_
  refine V_iconst (pc := 29) (v := 0) dX11_waiting_29 (by decide) ?_
  refine V_istore (pc := 30) dX11_waiting_30 (by decide) rfl ?_
  generalize wkBegin S (S 0 9) n pp = T0 at w0
  have loop : ∀ (m i : Nat) (x : Int32) (T : Nat → Nat → Int32), m + i = k → WI T s r pp bb → V G mX11_waiting d 0 0 (xE (some (.int (wkCnt s r pp bb (fun T => T 57 7 &&& (T 58 7 ^^^ -1)) q m x T))) (wH G b tbC (wkN s r pp bb m T) h0)) 32 [some (.ref (b + 0)), some (.int (nI q)), some (.int (nI k)), some (.int x), some (.int (nI i))] [] (wH G b tbC (T) h0) := by
    intro m
    induction m with
    | zero =>
      intro i x T hm w
      refine V_iload (pc := 32) dX11_waiting_32 rfl ?_
      refine V_iload_n (pc := 34) (i := 2) dX11_waiting_34 rfl rfl ?_
      refine V_icmp_ge (pc := 35) 68 dX11_waiting_35 rfl (fun c35 => ?_) (fun c35 => ?_)
      · refine V_iload_n (pc := 68) (i := 3) dX11_waiting_68 rfl rfl ?_
        exact VE_iret (pc := 69) dX11_waiting_69 rfl rfl rfl
      · exact absurd (by rw [show i = k by omega]; exact nI_le (by omega) (by omega)) c35
    | succ m ih =>
      intro i x T hm w
      rw [wkN, wkCnt]
      refine V_iload (pc := 32) dX11_waiting_32 rfl ?_
      refine V_iload_n (pc := 34) (i := 2) dX11_waiting_34 rfl rfl ?_
      refine V_icmp_ge (pc := 35) 68 dX11_waiting_35 rfl (fun c35 => ?_) (fun c35 => ?_)
      · exact absurd c35 (nI_ge (by omega) (by omega))
      · refine V_aload_n (pc := 38) (i := 0) dX11_waiting_38 rfl rfl ?_
        refine VW_getR (pc := 39) dX11_waiting_39 fX11_77 (by first | assumption | rfl) rfl ?_
        refine V_V0v (pc := 42) dX11_waiting_42 cX11_234 (by first | assumption | rfl) (X10_step (d := 4) w.1 w.2.1 h8 w.2.2.1 h7 w.2.2.2 hb8 hb (by omega)) (Nat.le_of_ble_eq_true rfl) (by omega) (Nat.le_of_ble_eq_true rfl) ?_
        refine V_iload_n (pc := 45) (i := 1) dX11_waiting_45 rfl rfl ?_
        refine V_aload_n (pc := 46) (i := 0) dX11_waiting_46 rfl rfl ?_
        refine VW_getR (pc := 47) dX11_waiting_47 fX11_77 (by first | assumption | rfl) rfl ?_
        refine V_V0i (pc := 50) dX11_waiting_50 cX11_251 (by first | assumption | rfl) (X10_leftBehind (d := 0)) (Nat.le_of_ble_eq_true rfl) (by omega) (Nat.le_of_ble_eq_true rfl) ?_
        refine V_S2i (pc := 53) dX11_waiting_53 cX11_182 (X11_isIn (d := 0) _ _) (Nat.le_of_ble_eq_true rfl) (by omega) (Nat.le_of_ble_eq_true rfl) ?_
        refine V_if_eq (pc := 56) 62 dX11_waiting_56 rfl (fun c56 => ?_) (fun c56 => ?_)
        · rw [if_neg (by rw [b2i_0.mp c56]; decide)]
          refine V_iinc (pc := 62) dX11_waiting_62 (by decide) rfl rfl (iincN (n := 1) (by decide)) ?_
          refine V_goto (pc := 65) 32 dX11_waiting_65 rfl ?_
          exact ih (i + 1) _ _ (by omega) (wkStep_WI hs w)
        · rw [if_pos (b2i_n0.mp c56)]
          refine V_iinc (pc := 59) dX11_waiting_59 (by decide) rfl rfl (v := x + 1) rfl ?_
          refine V_iinc (pc := 62) dX11_waiting_62 (by decide) rfl rfl (iincN (n := 1) (by decide)) ?_
          refine V_goto (pc := 65) 32 dX11_waiting_65 rfl ?_
          exact ih (i + 1) _ _ (by omega) (wkStep_WI hs w)
  exact loop k 0 0 T0 rfl w0
theorem X11_times {s n pp r bb : Nat} (ci : RI S s n pp r bb) {q k : Nat} (hq : q < pp) (hk : k ≤ 60) (hb : gB G ≤ b) (hd : 6 ≤ d) : VM G mX11_times d 0 0 [.ref (b + 0), .int (nI q), .int (nI k)] (xE (some (.int (wkCnt s r pp bb (fun T => T 58 7) q k 0 (wkBegin S (S 0 9) n pp)))) (wH G b tbC (wkN s r pp bb k (wkBegin S (S 0 9) n pp)) h0)) (wH G b tbC S h0) := by
  obtain ⟨hsh, hn, h12, hg, hp, h8, hr, h7, hbb, hb8⟩ := id ci
  have hs := shC_or (S 0 9)
  have hS := tbC_shore (S 0 9)
  rw [hsh] at hs hS
  obtain ⟨a0, a1, a2, a3, a4, a5, a6, a7⟩ := id hS
  obtain ⟨i0, i1, i2, i3⟩ := id a2
  obtain ⟨r0, r1, r2⟩ := id a3
  refine VM_start (ls := [some (.ref (b + 0)), some (.int (nI q)), some (.int (nI k)), none, none]) rfl ?_
  -- %m X11_times
  have w0 := wkBegin_WI hs ci
  refine V_aload_n (pc := 0) (i := 0) dX11_times_0 rfl rfl ?_
  refine V_iload_n (pc := 1) (i := 1) dX11_times_1 rfl rfl ?_
  refine V_V1v (pc := 2) dX11_times_2 cX11_188 (by first | assumption | rfl) (X11_mustBePerson_ok (d := 0) hsh hp h8 hq) (Nat.le_of_ble_eq_true rfl) (by omega) (Nat.le_of_ble_eq_true rfl) ?_
  refine V_iload_n (pc := 5) (i := 2) dX11_times_5 rfl rfl ?_
  refine V_iconst (pc := 6) (v := 0) dX11_times_6 (by decide) ?_
  refine V_bipush (pc := 7) (v := 60) dX11_times_7 (by decide) ?_
  refine V_S3v (pc := 9) dX11_times_9 cX11_94 (within_ok (l := 0) (m := 60) (d := 0) (Nat.zero_le _) hk (by decide)) (Nat.le_of_ble_eq_true rfl) (by omega) (Nat.le_of_ble_eq_true rfl) ?_
  refine V_aload_n (pc := 12) (i := 0) dX11_times_12 rfl rfl ?_
  refine VW_getR (pc := 13) dX11_times_13 fX11_77 (by first | assumption | rfl) rfl ?_
  refine V_aload_n (pc := 16) (i := 0) dX11_times_16 rfl rfl ?_
  refine VW_getWs (pc := 17) dX11_times_17 fX11_68 (by first | assumption | rfl) rfl (by first | assumption | (simp (disch := omega) only [up2_row, up2_col, up2_same, upR_row]; assumption)) ?_
  refine V_aload_n (pc := 20) (i := 0) dX11_times_20 rfl rfl ?_
  refine VW_getR (pc := 21) dX11_times_21 fX11_19 (by first | assumption | rfl) rfl ?_
  refine V_V2v (pc := 24) dX11_times_24 cX11_219 (by first | assumption | rfl) (X10_begin2 (d := 5) hsh hn h12 hp h8 hb (by omega)) (Nat.le_of_ble_eq_true rfl) (by omega) (Nat.le_of_ble_eq_true rfl) ?_
  refine V_iconst (pc := 27) (v := 0) dX11_times_27 (by decide) ?_
  refine V_istore_n (pc := 28) (i := 3) dX11_times_28 rfl (by decide) rfl ?_
  refine V_iconst (pc := 29) (v := 0) dX11_times_29 (by decide) ?_
  refine V_istore (pc := 30) dX11_times_30 (by decide) rfl ?_
  generalize wkBegin S (S 0 9) n pp = T0 at w0
  have loop : ∀ (m i : Nat) (x : Int32) (T : Nat → Nat → Int32), m + i = k → WI T s r pp bb → V G mX11_times d 0 0 (xE (some (.int (wkCnt s r pp bb (fun T => T 58 7) q m x T))) (wH G b tbC (wkN s r pp bb m T) h0)) 32 [some (.ref (b + 0)), some (.int (nI q)), some (.int (nI k)), some (.int x), some (.int (nI i))] [] (wH G b tbC (T) h0) := by
    intro m
    induction m with
    | zero =>
      intro i x T hm w
      refine V_iload (pc := 32) dX11_times_32 rfl ?_
      refine V_iload_n (pc := 34) (i := 2) dX11_times_34 rfl rfl ?_
      refine V_icmp_ge (pc := 35) 71 dX11_times_35 rfl (fun c35 => ?_) (fun c35 => ?_)
      · refine V_iload_n (pc := 71) (i := 3) dX11_times_71 rfl rfl ?_
        exact VE_iret (pc := 72) dX11_times_72 rfl rfl rfl
      · exact absurd (by rw [show i = k by omega]; exact nI_le (by omega) (by omega)) c35
    | succ m ih =>
      intro i x T hm w
      rw [wkN, wkCnt]
      refine V_iload (pc := 32) dX11_times_32 rfl ?_
      refine V_iload_n (pc := 34) (i := 2) dX11_times_34 rfl rfl ?_
      refine V_icmp_ge (pc := 35) 71 dX11_times_35 rfl (fun c35 => ?_) (fun c35 => ?_)
      · exact absurd c35 (nI_ge (by omega) (by omega))
      · refine V_aload_n (pc := 38) (i := 0) dX11_times_38 rfl rfl ?_
        refine VW_getR (pc := 39) dX11_times_39 fX11_77 (by first | assumption | rfl) rfl ?_
        refine V_V0v (pc := 42) dX11_times_42 cX11_234 (by first | assumption | rfl) (X10_step (d := 4) w.1 w.2.1 h8 w.2.2.1 h7 w.2.2.2 hb8 hb (by omega)) (Nat.le_of_ble_eq_true rfl) (by omega) (Nat.le_of_ble_eq_true rfl) ?_
        refine V_iload_n (pc := 45) (i := 1) dX11_times_45 rfl rfl ?_
        refine V_aload_n (pc := 46) (i := 0) dX11_times_46 rfl rfl ?_
        refine VW_getR (pc := 47) dX11_times_47 fX11_77 (by first | assumption | rfl) rfl ?_
        refine VW_getR (pc := 50) dX11_times_50 fX11_237 (by first | assumption | rfl) rfl ?_
        refine VW_getI (pc := 53) dX11_times_53 fX11_136 (by first | assumption | rfl) rfl ?_
        refine V_S2i (pc := 56) dX11_times_56 cX11_182 (X11_isIn (d := 0) _ _) (Nat.le_of_ble_eq_true rfl) (by omega) (Nat.le_of_ble_eq_true rfl) ?_
        refine V_if_eq (pc := 59) 65 dX11_times_59 rfl (fun c59 => ?_) (fun c59 => ?_)
        · rw [if_neg (by rw [b2i_0.mp c59]; decide)]
          refine V_iinc (pc := 65) dX11_times_65 (by decide) rfl rfl (iincN (n := 1) (by decide)) ?_
          refine V_goto (pc := 68) 32 dX11_times_68 rfl ?_
          exact ih (i + 1) _ _ (by omega) (wkStep_WI hs w)
        · rw [if_pos (b2i_n0.mp c59)]
          refine V_iinc (pc := 62) dX11_times_62 (by decide) rfl rfl (v := x + 1) rfl ?_
          refine V_iinc (pc := 65) dX11_times_65 (by decide) rfl rfl (iincN (n := 1) (by decide)) ?_
          refine V_goto (pc := 68) 32 dX11_times_68 rfl ?_
          exact ih (i + 1) _ _ (by omega) (wkStep_WI hs w)
  exact loop k 0 0 T0 rfl w0
theorem X11_somebodyWaits {s n pp r bb : Nat} (ci : RI S s n pp r bb) {k v : Nat} (hk : k ≤ 60) (hv : v ≤ 8) (hb : gB G ≤ b) (hd : 6 ≤ d) : VM G mX11_somebodyWaits d 0 0 [.ref (b + 0), .int (nI k), .int (nI v)] (xE (some (.int (b2i (wkSom s r pp v k (up2 (wkBegin S (S 0 9) n pp) 58 5 (nI v))).1))) (wH G b tbC ((wkSom s r pp v k (up2 (wkBegin S (S 0 9) n pp) 58 5 (nI v))).2) h0)) (wH G b tbC S h0) := by
  obtain ⟨hsh, hn, h12, hg, hp, h8, hr, h7, hbb, hb8⟩ := id ci
  have hs := shC_or (S 0 9)
  have hS := tbC_shore (S 0 9)
  rw [hsh] at hs hS
  obtain ⟨a0, a1, a2, a3, a4, a5, a6, a7⟩ := id hS
  obtain ⟨i0, i1, i2, i3⟩ := id a2
  obtain ⟨r0, r1, r2⟩ := id a3
  refine VM_start (ls := [some (.ref (b + 0)), some (.int (nI k)), some (.int (nI v)), none]) rfl ?_
  -- %m X11_somebodyWaits
  have w0 := wkBegin_WI hs ci
  refine V_aload_n (pc := 0) (i := 0) dX11_somebodyWaits_0 rfl rfl ?_
  refine VW_getR (pc := 1) dX11_somebodyWaits_1 fX11_77 (by first | assumption | rfl) rfl ?_
  refine V_aload_n (pc := 4) (i := 0) dX11_somebodyWaits_4 rfl rfl ?_
  refine VW_getWs (pc := 5) dX11_somebodyWaits_5 fX11_68 (by first | assumption | rfl) rfl (by first | assumption | (simp (disch := omega) only [up2_row, up2_col, up2_same, upR_row]; assumption)) ?_
  refine V_aload_n (pc := 8) (i := 0) dX11_somebodyWaits_8 rfl rfl ?_
  refine VW_getR (pc := 9) dX11_somebodyWaits_9 fX11_19 (by first | assumption | rfl) rfl ?_
  refine V_V2v (pc := 12) dX11_somebodyWaits_12 cX11_219 (by first | assumption | rfl) (X10_begin2 (d := 5) hsh hn h12 hp h8 hb (by omega)) (Nat.le_of_ble_eq_true rfl) (by omega) (Nat.le_of_ble_eq_true rfl) ?_
  refine V_aload_n (pc := 15) (i := 0) dX11_somebodyWaits_15 rfl rfl ?_
  refine VW_getR (pc := 16) dX11_somebodyWaits_16 fX11_77 (by first | assumption | rfl) rfl ?_
  refine VW_getR (pc := 19) dX11_somebodyWaits_19 fX11_237 (by first | assumption | rfl) rfl ?_
  refine V_iload_n (pc := 22) (i := 2) dX11_somebodyWaits_22 rfl rfl ?_
  refine VW_putI (pc := 23) dX11_somebodyWaits_23 fX11_130 ftX8 (fpI rfl rfl (tyX8_ok 5 (by decide))) (by first | assumption | rfl) rfl (by assumption) ?_
  refine V_iconst (pc := 26) (v := 0) dX11_somebodyWaits_26 (by decide) ?_
  refine V_istore_n (pc := 27) (i := 3) dX11_somebodyWaits_27 rfl (by decide) rfl ?_
  have w1 : WI (up2 (wkBegin S (S 0 9) n pp) 58 5 (nI v)) s r pp v := ⟨by rw [up2_row (by decide)]; exact w0.1, by rw [up2_row (by omega)]; exact w0.2.1, by rw [up2_row (by omega)]; exact w0.2.2.1, up2_same⟩
  generalize up2 (wkBegin S (S 0 9) n pp) 58 5 (nI v) = T0 at w1
  have loop : ∀ (m i : Nat) (T : Nat → Nat → Int32), m + i = k → WI T s r pp v → V G mX11_somebodyWaits d 0 0 (xE (some (.int (b2i (wkSom s r pp v m T).1))) (wH G b tbC ((wkSom s r pp v m T).2) h0)) 28 [some (.ref (b + 0)), some (.int (nI k)), some (.int (nI v)), some (.int (nI i))] [] (wH G b tbC (T) h0) := by
    intro m
    induction m with
    | zero =>
      intro i T hm w
      refine V_iload_n (pc := 28) (i := 3) dX11_somebodyWaits_28 rfl rfl ?_
      refine V_iload_n (pc := 29) (i := 1) dX11_somebodyWaits_29 rfl rfl ?_
      refine V_icmp_ge (pc := 30) 58 dX11_somebodyWaits_30 rfl (fun c30 => ?_) (fun c30 => ?_)
      · refine V_iconst (pc := 58) (v := 0) dX11_somebodyWaits_58 (by decide) ?_
        exact VE_zret (pc := 59) dX11_somebodyWaits_59 rfl (Or.inl rfl) rfl rfl
      · exact absurd (by rw [show i = k by omega]; exact nI_le (by omega) (by omega)) c30
    | succ m ih =>
      intro i T hm w
      rw [wkSom]
      refine V_iload_n (pc := 28) (i := 3) dX11_somebodyWaits_28 rfl rfl ?_
      refine V_iload_n (pc := 29) (i := 1) dX11_somebodyWaits_29 rfl rfl ?_
      refine V_icmp_ge (pc := 30) 58 dX11_somebodyWaits_30 rfl (fun c30 => ?_) (fun c30 => ?_)
      · exact absurd c30 (nI_ge (by omega) (by omega))
      · refine V_aload_n (pc := 33) (i := 0) dX11_somebodyWaits_33 rfl rfl ?_
        refine VW_getR (pc := 34) dX11_somebodyWaits_34 fX11_77 (by first | assumption | rfl) rfl ?_
        refine V_V0v (pc := 37) dX11_somebodyWaits_37 cX11_234 (by first | assumption | rfl) (X10_step (d := 4) w.1 w.2.1 h8 w.2.2.1 h7 w.2.2.2 hv hb (by omega)) (Nat.le_of_ble_eq_true rfl) (by omega) (Nat.le_of_ble_eq_true rfl) ?_
        refine V_aload_n (pc := 40) (i := 0) dX11_somebodyWaits_40 rfl rfl ?_
        refine VW_getR (pc := 41) dX11_somebodyWaits_41 fX11_77 (by first | assumption | rfl) rfl ?_
        refine V_V0i (pc := 44) dX11_somebodyWaits_44 cX11_251 (by first | assumption | rfl) (X10_leftBehind (d := 0)) (Nat.le_of_ble_eq_true rfl) (by omega) (Nat.le_of_ble_eq_true rfl) ?_
        refine V_if_eq (pc := 47) 52 dX11_somebodyWaits_47 rfl (fun c47 => ?_) (fun c47 => ?_)
        · rw [if_pos c47]
          refine V_iinc (pc := 52) dX11_somebodyWaits_52 (by decide) rfl rfl (iincN (n := 1) (by decide)) ?_
          refine V_goto (pc := 55) 28 dX11_somebodyWaits_55 rfl ?_
          exact ih (i + 1) _ (by omega) (wkStep_WI hs w)
        · rw [if_neg c47]
          refine V_iconst (pc := 50) (v := 1) dX11_somebodyWaits_50 (by decide) ?_
          exact VE_zret (pc := 51) dX11_somebodyWaits_51 rfl (Or.inr rfl) rfl rfl
  exact loop k 0 T0 rfl w1
theorem X11_toBear {s n pp r bb : Nat} (ci : RI S s n pp r bb) {k : Nat} (hk : k ≤ 60) (hb : gB G ≤ b) (hd : 7 ≤ d) : VM G mX11_toBear d 0 0 [.ref (b + 0), .int (nI k)] (xE (some (.int ((wkBear s r pp n k 7 1 S).1))) (wH G b tbC ((wkBear s r pp n k 7 1 S).2) h0)) (wH G b tbC S h0) := by
  obtain ⟨hsh, hn, h12, hg, hp, h8, hr, h7, hbb, hb8⟩ := id ci
  have hs := shC_or (S 0 9)
  have hS := tbC_shore (S 0 9)
  rw [hsh] at hs hS
  obtain ⟨a0, a1, a2, a3, a4, a5, a6, a7⟩ := id hS
  obtain ⟨i0, i1, i2, i3⟩ := id a2
  obtain ⟨r0, r1, r2⟩ := id a3
  refine VM_start (ls := [some (.ref (b + 0)), some (.int (nI k)), none]) rfl ?_
  -- %m X11_toBear
  refine V_iload_n (pc := 0) (i := 1) dX11_toBear_0 rfl rfl ?_
  refine V_iconst (pc := 1) (v := 0) dX11_toBear_1 (by decide) ?_
  refine V_bipush (pc := 2) (v := 60) dX11_toBear_2 (by decide) ?_
  refine V_S3v (pc := 4) dX11_toBear_4 cX11_94 (within_ok (l := 0) (m := 60) (d := 0) (Nat.zero_le _) hk (by decide)) (Nat.le_of_ble_eq_true rfl) (by omega) (Nat.le_of_ble_eq_true rfl) ?_
  refine V_iconst (pc := 7) (v := 1) dX11_toBear_7 (by decide) ?_
  refine V_istore_n (pc := 8) (i := 2) dX11_toBear_8 rfl (by decide) rfl ?_
  have loop : ∀ (m i : Nat) (S : Nat → Nat → Int32), m + i = 8 → RI S s n pp r bb → V G mX11_toBear d 0 0 (xE (some (.int ((wkBear s r pp n k m i S).1))) (wH G b tbC ((wkBear s r pp n k m i S).2) h0)) 9 [some (.ref (b + 0)), some (.int (nI k)), some (.int (nI i))] [] (wH G b tbC (S) h0) := by
    intro m
    induction m with
    | zero =>
      intro i S hm ci
      refine V_iload_n (pc := 9) (i := 2) dX11_toBear_9 rfl rfl ?_
      refine V_bipush (pc := 10) (v := 8) dX11_toBear_10 (by decide) ?_
      refine V_icmp_ge (pc := 12) 32 dX11_toBear_12 rfl (fun c12 => ?_) (fun c12 => ?_)
      · refine V_bipush (pc := 32) (v := 8) dX11_toBear_32 (by decide) ?_
        exact VE_iret (pc := 34) dX11_toBear_34 rfl rfl rfl
      · exact absurd (by rw [show i = 8 by omega]; decide) c12
    | succ m ih =>
      intro i S hm ci
      rw [wkBear]
      refine V_iload_n (pc := 9) (i := 2) dX11_toBear_9 rfl rfl ?_
      refine V_bipush (pc := 10) (v := 8) dX11_toBear_10 (by decide) ?_
      refine V_icmp_ge (pc := 12) 32 dX11_toBear_12 rfl (fun c12 => ?_) (fun c12 => ?_)
      · exact absurd c12 (nI_ge (b := 8) (by omega) (by decide))
      · refine V_aload_n (pc := 15) (i := 0) dX11_toBear_15 rfl rfl ?_
        refine V_iload_n (pc := 16) (i := 1) dX11_toBear_16 rfl rfl ?_
        refine V_iload_n (pc := 17) (i := 2) dX11_toBear_17 rfl rfl ?_
        refine V_V2i (pc := 18) dX11_toBear_18 cX11_254 (by first | assumption | rfl) (X11_somebodyWaits (d := 6) ci hk (by omega) hb (by omega)) (Nat.le_of_ble_eq_true rfl) (by omega) (Nat.le_of_ble_eq_true rfl) ?_
        refine V_if_ne (pc := 21) 26 dX11_toBear_21 rfl (fun c21 => ?_) (fun c21 => ?_)
        · rw [if_pos (b2i_n0.mp c21)]
          refine V_iinc (pc := 26) dX11_toBear_26 (by decide) rfl rfl (iincN (n := 1) (by decide)) ?_
          refine V_goto (pc := 29) 9 dX11_toBear_29 rfl ?_
          exact ih (i + 1) _ (by omega) (ci.sm hs ((wkBegin_sm.trans (up2_sm (by decide) (by decide))).trans (wkSom_sm _ _)))
        · rw [if_neg (by rw [b2i_0.mp c21]; decide)]
          refine V_iload_n (pc := 24) (i := 2) dX11_toBear_24 rfl rfl ?_
          exact VE_iret (pc := 25) dX11_toBear_25 rfl rfl rfl
  exact loop 7 1 S rfl ci
theorem X11_fullest {s n pp r bb : Nat} (ci : RI S s n pp r bb) {k v : Nat} (hk1 : 1 ≤ k) (hk : k ≤ 60) (hv : v ≤ 1) (hb : gB G ≤ b) (hd : 6 ≤ d) : VM G mX11_fullest d 0 0 [.ref (b + 0), .int (nI k), .int (nI v)] (xE (some (.int (if nI v = 0 then (wkFul s r pp bb k 1 0 (-1) (wkBegin S (S 0 9) n pp)).1 else (wkFul s r pp bb k 1 0 (-1) (wkBegin S (S 0 9) n pp)).2))) (wH G b tbC (wkN s r pp bb k (wkBegin S (S 0 9) n pp)) h0)) (wH G b tbC S h0) := by
  obtain ⟨hsh, hn, h12, hg, hp, h8, hr, h7, hbb, hb8⟩ := id ci
  have hs := shC_or (S 0 9)
  have hS := tbC_shore (S 0 9)
  rw [hsh] at hs hS
  obtain ⟨a0, a1, a2, a3, a4, a5, a6, a7⟩ := id hS
  obtain ⟨i0, i1, i2, i3⟩ := id a2
  obtain ⟨r0, r1, r2⟩ := id a3
  refine VM_start (ls := [some (.ref (b + 0)), some (.int (nI k)), some (.int (nI v)), none, none, none, none]) rfl ?_
  -- %m X11_fullest
  have w0 := wkBegin_WI hs ci
  refine V_iload_n (pc := 0) (i := 2) dX11_fullest_0 rfl rfl ?_
  refine V_iconst (pc := 1) (v := 1) dX11_fullest_1 (by decide) ?_
  refine V_S2v (pc := 2) dX11_fullest_2 cX11_247 (X11_mustBeWhat_ok (m := 1) (d := 0) hv (by decide)) (Nat.le_of_ble_eq_true rfl) (by omega) (Nat.le_of_ble_eq_true rfl) ?_
  refine V_iload_n (pc := 5) (i := 1) dX11_fullest_5 rfl rfl ?_
  refine V_iconst (pc := 6) (v := 1) dX11_fullest_6 (by decide) ?_
  refine V_bipush (pc := 7) (v := 60) dX11_fullest_7 (by decide) ?_
  refine V_S3v (pc := 9) dX11_fullest_9 cX11_94 (within_ok (l := 1) (m := 60) (d := 0) hk1 hk (by decide)) (Nat.le_of_ble_eq_true rfl) (by omega) (Nat.le_of_ble_eq_true rfl) ?_
  refine V_aload_n (pc := 12) (i := 0) dX11_fullest_12 rfl rfl ?_
  refine VW_getR (pc := 13) dX11_fullest_13 fX11_77 (by first | assumption | rfl) rfl ?_
  refine V_aload_n (pc := 16) (i := 0) dX11_fullest_16 rfl rfl ?_
  refine VW_getWs (pc := 17) dX11_fullest_17 fX11_68 (by first | assumption | rfl) rfl (by first | assumption | (simp (disch := omega) only [up2_row, up2_col, up2_same, upR_row]; assumption)) ?_
  refine V_aload_n (pc := 20) (i := 0) dX11_fullest_20 rfl rfl ?_
  refine VW_getR (pc := 21) dX11_fullest_21 fX11_19 (by first | assumption | rfl) rfl ?_
  refine V_V2v (pc := 24) dX11_fullest_24 cX11_219 (by first | assumption | rfl) (X10_begin2 (d := 5) hsh hn h12 hp h8 hb (by omega)) (Nat.le_of_ble_eq_true rfl) (by omega) (Nat.le_of_ble_eq_true rfl) ?_
  refine V_iconst (pc := 27) (v := 0) dX11_fullest_27 (by decide) ?_
  refine V_istore_n (pc := 28) (i := 3) dX11_fullest_28 rfl (by decide) rfl ?_
  refine V_iconst (pc := 29) (v := -1) dX11_fullest_29 (by decide) ?_
  refine V_istore (pc := 30) dX11_fullest_30 (by decide) rfl ?_
  refine V_iconst (pc := 32) (v := 1) dX11_fullest_32 (by decide) ?_
  refine V_istore (pc := 33) dX11_fullest_33 (by decide) rfl ?_
  generalize wkBegin S (S 0 9) n pp = T0 at w0
  have loop : ∀ (m i : Nat) (x : Int32) (y : Int32) (T : Nat → Nat → Int32), m + i = k + 1 → WI T s r pp bb → V G mX11_fullest d 0 0 (xE (some (.int (if nI v = 0 then (wkFul s r pp bb m i x y T).1 else (wkFul s r pp bb m i x y T).2))) (wH G b tbC (wkN s r pp bb m T) h0)) 35 [some (.ref (b + 0)), some (.int (nI k)), some (.int (nI v)), some (.int x), some (.int y), some (.int (nI i)), none] [] (wH G b tbC (T) h0) := by
    intro m
    induction m with
    | zero =>
      intro i x y T hm w
      refine V_iload (pc := 35) dX11_fullest_35 rfl ?_
      refine V_iload_n (pc := 37) (i := 1) dX11_fullest_37 rfl rfl ?_
      refine V_icmp_gt (pc := 38) 83 dX11_fullest_38 rfl (fun c38 => ?_) (fun c38 => ?_)
      · refine V_iload_n (pc := 83) (i := 2) dX11_fullest_83 rfl rfl ?_
        refine V_if_ne (pc := 84) 91 dX11_fullest_84 rfl (fun c84 => ?_) (fun c84 => ?_)
        · refine V_iload (pc := 91) dX11_fullest_91 rfl ?_
          exact VE_iret (pc := 93) dX11_fullest_93 rfl (by first | (rw [if_pos c84]; rfl) | (rw [if_neg c84]; rfl)) rfl
        · refine V_iload_n (pc := 87) (i := 3) dX11_fullest_87 rfl rfl ?_
          refine V_goto (pc := 88) 93 dX11_fullest_88 rfl ?_
          exact VE_iret (pc := 93) dX11_fullest_93 rfl (by first | (rw [if_pos c84]; rfl) | (rw [if_neg c84]; rfl)) rfl
      · exact absurd (by rw [show i = k + 1 by omega]; exact nI_lt (by omega) (by omega)) c38
    | succ m ih =>
      intro i x y T hm w
      rw [wkN, wkFul]
      refine V_iload (pc := 35) dX11_fullest_35 rfl ?_
      refine V_iload_n (pc := 37) (i := 1) dX11_fullest_37 rfl rfl ?_
      refine V_icmp_gt (pc := 38) 83 dX11_fullest_38 rfl (fun c38 => ?_) (fun c38 => ?_)
      · exact absurd c38 (nI_nlt (by omega) (by omega))
      · refine V_aload_n (pc := 41) (i := 0) dX11_fullest_41 rfl rfl ?_
        refine VW_getR (pc := 42) dX11_fullest_42 fX11_77 (by first | assumption | rfl) rfl ?_
        refine V_V0v (pc := 45) dX11_fullest_45 cX11_234 (by first | assumption | rfl) (X10_step (d := 4) w.1 w.2.1 h8 w.2.2.1 h7 w.2.2.2 hb8 hb (by omega)) (Nat.le_of_ble_eq_true rfl) (by omega) (Nat.le_of_ble_eq_true rfl) ?_
        refine V_aload_n (pc := 48) (i := 0) dX11_fullest_48 rfl rfl ?_
        refine VW_getR (pc := 49) dX11_fullest_49 fX11_77 (by first | assumption | rfl) rfl ?_
        refine VW_getR (pc := 52) dX11_fullest_52 fX11_237 (by first | assumption | rfl) rfl ?_
        refine VW_getI (pc := 55) dX11_fullest_55 fX11_136 (by first | assumption | rfl) rfl ?_
        refine V_S1i (pc := 58) dX11_fullest_58 cX11_257 (J6_bitCount (d := 0) _) (Nat.le_of_ble_eq_true rfl) (by omega) (Nat.le_of_ble_eq_true rfl) ?_
        refine V_istore (pc := 61) dX11_fullest_61 (by decide) rfl ?_
        refine V_iload (pc := 63) dX11_fullest_63 rfl ?_
        refine V_iload (pc := 65) dX11_fullest_65 rfl ?_
        refine V_icmp_le (pc := 67) 77 dX11_fullest_67 rfl (fun c67 => ?_) (fun c67 => ?_)
        · rw [if_neg (Int32.not_lt.mpr c67)]
          refine V_iinc (pc := 77) dX11_fullest_77 (by decide) rfl rfl (iincN (n := 1) (by decide)) ?_
          refine V_goto (pc := 80) 35 dX11_fullest_80 rfl ?_
          exact V_forget 6 (ih (i + 1) _ _ _ (by omega) (wkStep_WI hs w))
        · rw [if_pos (Int32.not_le.mp c67)]
          refine V_iload (pc := 70) dX11_fullest_70 rfl ?_
          refine V_istore (pc := 72) dX11_fullest_72 (by decide) rfl ?_
          refine V_iload (pc := 74) dX11_fullest_74 rfl ?_
          refine V_istore_n (pc := 76) (i := 3) dX11_fullest_76 rfl (by decide) rfl ?_
          refine V_iinc (pc := 77) dX11_fullest_77 (by decide) rfl rfl (iincN (n := 1) (by decide)) ?_
          refine V_goto (pc := 80) 35 dX11_fullest_80 rfl ?_
          exact V_forget 6 (ih (i + 1) _ _ _ (by omega) (wkStep_WI hs w))
  exact loop k 1 _ _ T0 (by omega) w0
end Face2
