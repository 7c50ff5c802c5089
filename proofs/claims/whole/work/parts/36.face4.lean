/-! ===== the face: PEOPLE, what is SEEN ===== -/
section Face4
variable {G : xG} {d : Nat} {b : Nat} {S T : Nat → Nat → Int32} {h0 h : xH}
/-- whom to send: m sets from i on, z so far by which y things are seen -/
def sndF (A : Nat → Int32) (k : Int32) : Nat → Nat → Int32 → Int32 → Int32
  | 0, _, z, _ => z
  | m + 1, i, z, y => if bcI (nI i) = k then (if y < bcI (A i) then sndF A k m (i + 1) (nI i) (bcI (A i)) else sndF A k m (i + 1) z y) else sndF A k m (i + 1) z y
/-- the first of those with most: z so far, y its -/
def mstF (w : Nat → Int32) : Nat → Nat → Int32 → Int32 → Int32
  | 0, _, z, _ => z
  | m + 1, i, z, y => if z = -1 ∨ y < w i then mstF w m (i + 1) (nI i) (w i) else mstF w m (i + 1) z y
def bankF (S : Nat → Nat → Int32) (s n v q : Nat) : Int32 := if nI v = 0 then S 18 q else if nI v = 1 then cThere S s 17 n q else cSpare S s 17 n q
/-- a row is laid: m from i on -/
def layF (A : Nat → Int32) : Nat → Nat → (Nat → Int32) → Nat → Int32
  | 0, _, f => f
  | m + 1, i, f => layF A m (i + 1) (upd f i (A i))
theorem layF_lo {A : Nat → Int32} : ∀ (m i : Nat) (f : Nat → Int32) (j : Nat), j < i → layF A m i f j = f j := by
  intro m
  induction m with
  | zero => intro i f j h; rfl
  | succ m ih =>
    intro i f j h
    rw [layF, ih (i + 1) _ j (by omega)]
    simp [upd, Nat.ne_of_lt h]
theorem layF_in {A : Nat → Int32} : ∀ (m i : Nat) (f : Nat → Int32) (j : Nat), i ≤ j → j < i + m → layF A m i f j = A j := by
  intro m
  induction m with
  | zero => intro i f j h h2; omega
  | succ m ih =>
    intro i f j h h2
    rw [layF]
    by_cases e : j = i
    · subst e
      rw [layF_lo m (j + 1) _ j (by omega)]
      simp [upd]
    · exact ih (i + 1) _ j (by omega) (by omega)
/-- the best of m from i on, z so far -/
def bmF (w : Nat → Int32) : Nat → Nat → Nat → Nat
  | 0, _, z => z
  | m + 1, i, z => bmF w m (i + 1) (if w z < w i then i else z)
/-- where to look: m from i on, z so far, by which y can't be -/
def lokF (w : Nat → Int32) : Nat → Nat → Int32 → Int32 → Int32 × Int32
  | 0, _, z, y => (z, y)
  | m + 1, i, z, y => if y < w i then lokF w m (i + 1) (nI i) (w i) else lokF w m (i + 1) z y
/-- the lesser number of those that would be told apart by looking at t -/
def lokW (A : Nat → Int32) (x9 : Int32) (t : Nat) : Int32 := mnI (cntP (fun i => hasB x9 (nI i) && hasB (A i) (nI t)) 10 0 0) (bcI x9 - cntP (fun i => hasB x9 (nI i) && hasB (A i) (nI t)) 10 0 0)
/-- all together -/
def orN (f : Nat → Int32) : Nat → Nat → Int32 → Int32
  | 0, _, x => x
  | m + 1, i, x => orN f m (i + 1) (x ||| f i)
theorem X11_like {s n pp r bb : Nat} (ci : RI S s n pp r bb) {q v : Nat} (hq : q < pp) (hv : v ≤ 1) (hb : gB G ≤ b) (hd : 4 ≤ d) : VM G mX11_like d 0 0 [.ref (b + 0), .int (nI q), .int (nI v)] (xE (some (.int (colB (fun i => decide ((if nI v = 0 then cThere S s 17 n i else S 18 i) = cThere S s 17 n q)) pp 0 0))) (wH G b tbC (S) h0)) (wH G b tbC S h0) := by
  obtain ⟨hsh, hn, h12, hg, hp, h8, hr, h7, hbb, hb8⟩ := id ci
  have hs := shC_or (S 0 9)
  have hS := tbC_shore (S 0 9)
  rw [hsh] at hs hS
  obtain ⟨a0, a1, a2, a3, a4, a5, a6, a7⟩ := id hS
  obtain ⟨i0, i1, i2, i3⟩ := id a2
  obtain ⟨r0, r1, r2⟩ := id a3
  refine VM_start (ls := [some (.ref (b + 0)), some (.int (nI q)), some (.int (nI v)), none, none, none, none]) rfl ?_
  -- %m X11_like
  refine V_aload_n (pc := 0) (i := 0) dX11_like_0 rfl rfl ?_
  refine V_iload_n (pc := 1) (i := 1) dX11_like_1 rfl rfl ?_
  refine V_V1v (pc := 2) dX11_like_2 cX11_188 (by first | assumption | rfl) (X11_mustBePerson_ok (d := 0) hsh hp h8 hq) (Nat.le_of_ble_eq_true rfl) (by omega) (Nat.le_of_ble_eq_true rfl) ?_
  refine V_iload_n (pc := 5) (i := 2) dX11_like_5 rfl rfl ?_
  refine V_iconst (pc := 6) (v := 1) dX11_like_6 (by decide) ?_
  refine V_S2v (pc := 7) dX11_like_7 cX11_247 (X11_mustBeWhat_ok (m := 1) (d := 0) hv (by decide)) (Nat.le_of_ble_eq_true rfl) (by omega) (Nat.le_of_ble_eq_true rfl) ?_
  refine V_aload_n (pc := 10) (i := 0) dX11_like_10 rfl rfl ?_
  refine VW_getWs (pc := 11) dX11_like_11 fX11_68 (by first | assumption | rfl) rfl (by first | assumption | (simp (disch := omega) only [up2_row, up2_col, up2_same, upR_row]; assumption)) ?_
  refine V_aload_n (pc := 14) (i := 0) dX11_like_14 rfl rfl ?_
  refine VW_getR (pc := 15) dX11_like_15 fX11_19 (by first | assumption | rfl) rfl ?_
  refine V_iload_n (pc := 18) (i := 1) dX11_like_18 rfl rfl ?_
  refine V_V2i (pc := 19) dX11_like_19 cX11_206 (by first | assumption | rfl) (X7_thereOf (d := 3) hS tbC_17 hn h12 (by omega) (by omega)) (Nat.le_of_ble_eq_true rfl) (by omega) (Nat.le_of_ble_eq_true rfl) ?_
  refine V_istore_n (pc := 22) (i := 3) dX11_like_22 rfl (by decide) rfl ?_
  refine V_iconst (pc := 23) (v := 0) dX11_like_23 (by decide) ?_
  refine V_istore (pc := 24) dX11_like_24 (by decide) rfl ?_
  refine V_iconst (pc := 26) (v := 0) dX11_like_26 (by decide) ?_
  refine V_istore (pc := 27) dX11_like_27 (by decide) rfl ?_
  have loop : ∀ (m i : Nat) (x : Int32), m + i = pp → V G mX11_like d 0 0 (xE (some (.int (colB (fun i => decide ((if nI v = 0 then cThere S s 17 n i else S 18 i) = cThere S s 17 n q)) m i x))) (wH G b tbC (S) h0)) 29 [some (.ref (b + 0)), some (.int (nI q)), some (.int (nI v)), some (.int ((cThere S s 17 n q))), some (.int x), some (.int (nI i)), none] [] (wH G b tbC (S) h0) := by
    intro m
    induction m with
    | zero =>
      intro i x hm
      refine V_iload (pc := 29) dX11_like_29 rfl ?_
      refine V_aload_n (pc := 31) (i := 0) dX11_like_31 rfl rfl ?_
      refine VW_getWs (pc := 32) dX11_like_32 fX11_68 (by first | assumption | rfl) rfl (by first | assumption | (simp (disch := omega) only [up2_row, up2_col, up2_same, upR_row]; assumption)) ?_
      refine VW_getI (pc := 35) dX11_like_35 fX11_120 (by first | assumption | rfl) rfl ?_
      refine V_icmp_ge (pc := 38) 94 dX11_like_38 rfl (fun c38 => ?_) (fun c38 => ?_)
      · refine V_iload (pc := 94) dX11_like_94 rfl ?_
        exact VE_iret (pc := 96) dX11_like_96 rfl rfl rfl
      · exact absurd (by rw [hp, show i = pp by omega]; exact nI_le (by omega) (by omega)) c38
    | succ m ih =>
      intro i x hm
      rw [colB]
      refine V_iload (pc := 29) dX11_like_29 rfl ?_
      refine V_aload_n (pc := 31) (i := 0) dX11_like_31 rfl rfl ?_
      refine VW_getWs (pc := 32) dX11_like_32 fX11_68 (by first | assumption | rfl) rfl (by first | assumption | (simp (disch := omega) only [up2_row, up2_col, up2_same, upR_row]; assumption)) ?_
      refine VW_getI (pc := 35) dX11_like_35 fX11_120 (by first | assumption | rfl) rfl ?_
      refine V_icmp_ge (pc := 38) 94 dX11_like_38 rfl (fun c38 => ?_) (fun c38 => ?_)
      · exact absurd c38 (by rw [hp]; exact nI_ge (by omega) (by omega))
      · refine V_iload_n (pc := 41) (i := 2) dX11_like_41 rfl rfl ?_
        refine V_if_ne (pc := 42) 61 dX11_like_42 rfl (fun c42 => ?_) (fun c42 => ?_)
        · rw [if_neg c42]
          refine V_aload_n (pc := 61) (i := 0) dX11_like_61 rfl rfl ?_
          refine VW_getR (pc := 62) dX11_like_62 fX11_19 (by first | assumption | rfl) rfl ?_
          refine VW_getR (pc := 65) dX11_like_65 fX11_191 (by first | assumption | rfl) rfl ?_
          refine V_iload (pc := 68) dX11_like_68 rfl ?_
          refine VW_ialdN (pc := 70) dX11_like_70 (by first | assumption | rfl) rfl (by omega) (by first | decide | omega) ?_
          refine V_istore (pc := 71) dX11_like_71 (by decide) rfl ?_
          refine V_iload (pc := 73) dX11_like_73 rfl ?_
          refine V_iload_n (pc := 75) (i := 3) dX11_like_75 rfl rfl ?_
          refine V_icmp_ne (pc := 76) 88 dX11_like_76 rfl (fun c76 => ?_) (fun c76 => ?_)
          · rw [if_neg (by simp [c76])]
            refine V_iinc (pc := 88) dX11_like_88 (by decide) rfl rfl (iincN (n := 1) (by decide)) ?_
            refine V_goto (pc := 91) 29 dX11_like_91 rfl ?_
            exact V_forget 6 (ih (i + 1) _ (by omega))
          · rw [if_pos (by simp [c76])]
            refine V_iload (pc := 79) dX11_like_79 rfl ?_
            refine V_iconst (pc := 81) (v := 1) dX11_like_81 (by decide) ?_
            refine V_iload (pc := 82) dX11_like_82 rfl ?_
            refine V_ishl (pc := 84) dX11_like_84 ?_
            refine V_ior (pc := 85) dX11_like_85 ?_
            refine V_istore (pc := 86) dX11_like_86 (by decide) rfl ?_
            refine V_iinc (pc := 88) dX11_like_88 (by decide) rfl rfl (iincN (n := 1) (by decide)) ?_
            refine V_goto (pc := 91) 29 dX11_like_91 rfl ?_
            exact V_forget 6 (ih (i + 1) _ (by omega))
        · rw [if_pos c42]
          refine V_aload_n (pc := 45) (i := 0) dX11_like_45 rfl rfl ?_
          refine VW_getWs (pc := 46) dX11_like_46 fX11_68 (by first | assumption | rfl) rfl (by first | assumption | (simp (disch := omega) only [up2_row, up2_col, up2_same, upR_row]; assumption)) ?_
          refine V_aload_n (pc := 49) (i := 0) dX11_like_49 rfl rfl ?_
          refine VW_getR (pc := 50) dX11_like_50 fX11_19 (by first | assumption | rfl) rfl ?_
          refine V_iload (pc := 53) dX11_like_53 rfl ?_
          refine V_V2i (pc := 55) dX11_like_55 cX11_206 (by first | assumption | rfl) (X7_thereOf (d := 3) hS tbC_17 hn h12 (by omega) (by omega)) (Nat.le_of_ble_eq_true rfl) (by omega) (Nat.le_of_ble_eq_true rfl) ?_
          refine V_goto (pc := 58) 71 dX11_like_58 rfl ?_
          refine V_istore (pc := 71) dX11_like_71 (by decide) rfl ?_
          refine V_iload (pc := 73) dX11_like_73 rfl ?_
          refine V_iload_n (pc := 75) (i := 3) dX11_like_75 rfl rfl ?_
          refine V_icmp_ne (pc := 76) 88 dX11_like_76 rfl (fun c76 => ?_) (fun c76 => ?_)
          · rw [if_neg (by simp [c76])]
            refine V_iinc (pc := 88) dX11_like_88 (by decide) rfl rfl (iincN (n := 1) (by decide)) ?_
            refine V_goto (pc := 91) 29 dX11_like_91 rfl ?_
            exact V_forget 6 (ih (i + 1) _ (by omega))
          · rw [if_pos (by simp [c76])]
            refine V_iload (pc := 79) dX11_like_79 rfl ?_
            refine V_iconst (pc := 81) (v := 1) dX11_like_81 (by decide) ?_
            refine V_iload (pc := 82) dX11_like_82 rfl ?_
            refine V_ishl (pc := 84) dX11_like_84 ?_
            refine V_ior (pc := 85) dX11_like_85 ?_
            refine V_istore (pc := 86) dX11_like_86 (by decide) rfl ?_
            refine V_iinc (pc := 88) dX11_like_88 (by decide) rfl rfl (iincN (n := 1) (by decide)) ?_
            refine V_goto (pc := 91) 29 dX11_like_91 rfl ?_
            exact V_forget 6 (ih (i + 1) _ (by omega))
  exact loop pp 0 _ rfl
theorem X11_toSend {s n pp r bb : Nat} (ci : RI S s n pp r bb) {k : Nat} (hk : k ≤ 8) (hb : gB G ≤ b) (hd : 6 ≤ d) : VM G mX11_toSend d 0 0 [.ref (b + 0), .int (nI k)] (xE (some (.int (sndF (fun i => orB (wkBegin S (S 0 9) n pp 63) (nI i) pp 0 0) (nI k) (2 ^ pp) 0 (-1) (-1)))) (wH G b tbC (wkBegin S (S 0 9) n pp) h0)) (wH G b tbC S h0) := by
  obtain ⟨hsh, hn, h12, hg, hp, h8, hr, h7, hbb, hb8⟩ := id ci
  have hs := shC_or (S 0 9)
  have hS := tbC_shore (S 0 9)
  rw [hsh] at hs hS
  obtain ⟨a0, a1, a2, a3, a4, a5, a6, a7⟩ := id hS
  obtain ⟨i0, i1, i2, i3⟩ := id a2
  obtain ⟨r0, r1, r2⟩ := id a3
  refine VM_start (ls := [some (.ref (b + 0)), some (.int (nI k)), none, none, none, none, none]) rfl ?_
  -- %m X11_toSend
  have w0 := wkBegin_WI hs ci
  refine V_iload_n (pc := 0) (i := 1) dX11_toSend_0 rfl rfl ?_
  refine V_iconst (pc := 1) (v := 0) dX11_toSend_1 (by decide) ?_
  refine V_bipush (pc := 2) (v := 8) dX11_toSend_2 (by decide) ?_
  refine V_S3v (pc := 4) dX11_toSend_4 cX11_94 (within_ok (l := 0) (m := 8) (d := 0) (Nat.zero_le _) hk (by decide)) (Nat.le_of_ble_eq_true rfl) (by omega) (Nat.le_of_ble_eq_true rfl) ?_
  refine V_aload_n (pc := 7) (i := 0) dX11_toSend_7 rfl rfl ?_
  refine VW_getR (pc := 8) dX11_toSend_8 fX11_77 (by first | assumption | rfl) rfl ?_
  refine V_aload_n (pc := 11) (i := 0) dX11_toSend_11 rfl rfl ?_
  refine VW_getWs (pc := 12) dX11_toSend_12 fX11_68 (by first | assumption | rfl) rfl (by first | assumption | (simp (disch := omega) only [up2_row, up2_col, up2_same, upR_row]; assumption)) ?_
  refine V_aload_n (pc := 15) (i := 0) dX11_toSend_15 rfl rfl ?_
  refine VW_getR (pc := 16) dX11_toSend_16 fX11_19 (by first | assumption | rfl) rfl ?_
  refine V_V2v (pc := 19) dX11_toSend_19 cX11_219 (by first | assumption | rfl) (X10_begin2 (d := 5) hsh hn h12 hp h8 hb (by omega)) (Nat.le_of_ble_eq_true rfl) (by omega) (Nat.le_of_ble_eq_true rfl) ?_
  refine V_iconst (pc := 22) (v := -1) dX11_toSend_22 (by decide) ?_
  refine V_istore_n (pc := 23) (i := 2) dX11_toSend_23 rfl (by decide) rfl ?_
  refine V_iconst (pc := 24) (v := -1) dX11_toSend_24 (by decide) ?_
  refine V_istore_n (pc := 25) (i := 3) dX11_toSend_25 rfl (by decide) rfl ?_
  refine V_iconst (pc := 26) (v := 1) dX11_toSend_26 (by decide) ?_
  refine V_aload_n (pc := 27) (i := 0) dX11_toSend_27 rfl rfl ?_
  have hsh2 : shC (wkBegin S (S 0 9) n pp 0 9) = s := by rw [wkBegin_off (by decide)]; exact hsh
  refine VW_getWs (pc := 28) dX11_toSend_28 fX11_68 (by first | assumption | rfl) rfl (by first | assumption | (simp (disch := omega) only [up2_row, up2_col, up2_same, upR_row]; assumption)) ?_
  refine VW_getI (pc := 31) dX11_toSend_31 fX11_120 (by first | assumption | rfl) rfl ?_
  generalize wkBegin S (S 0 9) n pp = T0 at w0 hsh2
  rw [w0.2.1]
  refine V_ishl (pc := 34) dX11_toSend_34 ?_
  rw [st1 (by omega)]
  have hN : 2 ^ pp ≤ 256 := Nat.pow_le_pow_right (n := 2) (by decide) h8
  generalize 2 ^ pp = N at hN
  refine V_istore (pc := 35) dX11_toSend_35 (by decide) rfl ?_
  refine V_iconst (pc := 37) (v := 0) dX11_toSend_37 (by decide) ?_
  refine V_istore (pc := 38) dX11_toSend_38 (by decide) rfl ?_
  have loop : ∀ (m i : Nat) (z : Int32) (y : Int32), m + i = N → V G mX11_toSend d 0 0 (xE (some (.int (sndF (fun i => orB (T0 63) (nI i) pp 0 0) (nI k) m i z y))) (wH G b tbC (T0) h0)) 40 [some (.ref (b + 0)), some (.int (nI k)), some (.int z), some (.int y), some (.int (nI N)), some (.int (nI i)), none] [] (wH G b tbC (T0) h0) := by
    intro m
    induction m with
    | zero =>
      intro i z y hm
      refine V_iload (pc := 40) dX11_toSend_40 rfl ?_
      refine V_iload (pc := 42) dX11_toSend_42 rfl ?_
      refine V_icmp_ge (pc := 44) 91 dX11_toSend_44 rfl (fun c44 => ?_) (fun c44 => ?_)
      · refine V_iload_n (pc := 91) (i := 2) dX11_toSend_91 rfl rfl ?_
        exact VE_iret (pc := 92) dX11_toSend_92 rfl rfl rfl
      · exact absurd (by rw [show i = N by omega]; exact nI_le (by omega) (by omega)) c44
    | succ m ih =>
      intro i z y hm
      rw [sndF]
      refine V_iload (pc := 40) dX11_toSend_40 rfl ?_
      refine V_iload (pc := 42) dX11_toSend_42 rfl ?_
      refine V_icmp_ge (pc := 44) 91 dX11_toSend_44 rfl (fun c44 => ?_) (fun c44 => ?_)
      · exact absurd c44 (nI_ge (by omega) (by omega))
      · refine V_iload (pc := 47) dX11_toSend_47 rfl ?_
        refine V_S1i (pc := 49) dX11_toSend_49 cX11_257 (J6_bitCount (d := 0) _) (Nat.le_of_ble_eq_true rfl) (by omega) (Nat.le_of_ble_eq_true rfl) ?_
        refine V_iload_n (pc := 52) (i := 1) dX11_toSend_52 rfl rfl ?_
        refine V_icmp_eq (pc := 53) 59 dX11_toSend_53 rfl (fun c53 => ?_) (fun c53 => ?_)
        · rw [if_pos c53]
          refine V_aload_n (pc := 59) (i := 0) dX11_toSend_59 rfl rfl ?_
          refine VW_getR (pc := 60) dX11_toSend_60 fX11_77 (by first | assumption | rfl) rfl ?_
          refine V_iload (pc := 63) dX11_toSend_63 rfl ?_
          refine V_V1i (pc := 65) dX11_toSend_65 cX11_281 (by first | assumption | rfl) (X10_thereOfAll (d := 1) w0.1 w0.2.1 h8 (by omega) _) (Nat.le_of_ble_eq_true rfl) (by omega) (Nat.le_of_ble_eq_true rfl) ?_
          refine V_S1i (pc := 68) dX11_toSend_68 cX11_257 (J6_bitCount (d := 0) _) (Nat.le_of_ble_eq_true rfl) (by omega) (Nat.le_of_ble_eq_true rfl) ?_
          refine V_istore (pc := 71) dX11_toSend_71 (by decide) rfl ?_
          refine V_iload (pc := 73) dX11_toSend_73 rfl ?_
          refine V_iload_n (pc := 75) (i := 3) dX11_toSend_75 rfl rfl ?_
          refine V_icmp_le (pc := 76) 85 dX11_toSend_76 rfl (fun c76 => ?_) (fun c76 => ?_)
          · rw [if_neg (Int32.not_lt.mpr c76)]
            refine V_iinc (pc := 85) dX11_toSend_85 (by decide) rfl rfl (iincN (n := 1) (by decide)) ?_
            refine V_goto (pc := 88) 40 dX11_toSend_88 rfl ?_
            exact V_forget 6 (ih (i + 1) _ _ (by omega))
          · rw [if_pos (Int32.not_le.mp c76)]
            refine V_iload (pc := 79) dX11_toSend_79 rfl ?_
            refine V_istore_n (pc := 81) (i := 3) dX11_toSend_81 rfl (by decide) rfl ?_
            refine V_iload (pc := 82) dX11_toSend_82 rfl ?_
            refine V_istore_n (pc := 84) (i := 2) dX11_toSend_84 rfl (by decide) rfl ?_
            refine V_iinc (pc := 85) dX11_toSend_85 (by decide) rfl rfl (iincN (n := 1) (by decide)) ?_
            refine V_goto (pc := 88) 40 dX11_toSend_88 rfl ?_
            exact V_forget 6 (ih (i + 1) _ _ (by omega))
        · rw [if_neg c53]
          refine V_goto (pc := 56) 85 dX11_toSend_56 rfl ?_
          refine V_iinc (pc := 85) dX11_toSend_85 (by decide) rfl rfl (iincN (n := 1) (by decide)) ?_
          refine V_goto (pc := 88) 40 dX11_toSend_88 rfl ?_
          exact ih (i + 1) _ _ (by omega)
  exact loop N 0 _ _ rfl
theorem X11_bankOf {s n pp r bb : Nat} (ci : RI S s n pp r bb) {q v : Nat} (hq : q < pp) (hv : v ≤ 2) (hb : gB G ≤ b) (hd : 4 ≤ d) : VM G mX11_bankOf d 0 0 [.ref (b + 0), .int (nI q), .int (nI v)] (xE (some (.int (bankF S s n v q))) (wH G b tbC (S) h0)) (wH G b tbC S h0) := by
  obtain ⟨hsh, hn, h12, hg, hp, h8, hr, h7, hbb, hb8⟩ := id ci
  have hs := shC_or (S 0 9)
  have hS := tbC_shore (S 0 9)
  rw [hsh] at hs hS
  obtain ⟨a0, a1, a2, a3, a4, a5, a6, a7⟩ := id hS
  obtain ⟨i0, i1, i2, i3⟩ := id a2
  obtain ⟨r0, r1, r2⟩ := id a3
  refine VM_start (ls := [some (.ref (b + 0)), some (.int (nI q)), some (.int (nI v))]) rfl ?_
  -- %m X11_bankOf
  unfold bankF
  refine V_iload_n (pc := 0) (i := 2) dX11_bankOf_0 rfl rfl ?_
  refine V_if_ne (pc := 1) 14 dX11_bankOf_1 rfl (fun c1 => ?_) (fun c1 => ?_)
  · rw [if_neg c1]
    refine V_iload_n (pc := 14) (i := 2) dX11_bankOf_14 rfl rfl ?_
    refine V_iconst (pc := 15) (v := 1) dX11_bankOf_15 (by decide) ?_
    refine V_icmp_ne (pc := 16) 34 dX11_bankOf_16 rfl (fun c16 => ?_) (fun c16 => ?_)
    · rw [if_neg c16]
      refine V_aload_n (pc := 34) (i := 0) dX11_bankOf_34 rfl rfl ?_
      refine VW_getWs (pc := 35) dX11_bankOf_35 fX11_68 (by first | assumption | rfl) rfl (by first | assumption | (simp (disch := omega) only [up2_row, up2_col, up2_same, upR_row]; assumption)) ?_
      refine V_aload_n (pc := 38) (i := 0) dX11_bankOf_38 rfl rfl ?_
      refine VW_getR (pc := 39) dX11_bankOf_39 fX11_19 (by first | assumption | rfl) rfl ?_
      refine V_iload_n (pc := 42) (i := 1) dX11_bankOf_42 rfl rfl ?_
      refine V_V2i (pc := 43) dX11_bankOf_43 cX11_210 (by first | assumption | rfl) (X7_sparedBankOf (d := 3) hS tbC_17 hn h12 (by omega) (by omega)) (Nat.le_of_ble_eq_true rfl) (by omega) (Nat.le_of_ble_eq_true rfl) ?_
      exact VE_iret (pc := 46) dX11_bankOf_46 rfl rfl rfl
    · rw [if_pos c16]
      refine V_aload_n (pc := 19) (i := 0) dX11_bankOf_19 rfl rfl ?_
      refine VW_getWs (pc := 20) dX11_bankOf_20 fX11_68 (by first | assumption | rfl) rfl (by first | assumption | (simp (disch := omega) only [up2_row, up2_col, up2_same, upR_row]; assumption)) ?_
      refine V_aload_n (pc := 23) (i := 0) dX11_bankOf_23 rfl rfl ?_
      refine VW_getR (pc := 24) dX11_bankOf_24 fX11_19 (by first | assumption | rfl) rfl ?_
      refine V_iload_n (pc := 27) (i := 1) dX11_bankOf_27 rfl rfl ?_
      refine V_V2i (pc := 28) dX11_bankOf_28 cX11_206 (by first | assumption | rfl) (X7_thereOf (d := 3) hS tbC_17 hn h12 (by omega) (by omega)) (Nat.le_of_ble_eq_true rfl) (by omega) (Nat.le_of_ble_eq_true rfl) ?_
      refine V_goto (pc := 31) 46 dX11_bankOf_31 rfl ?_
      exact VE_iret (pc := 46) dX11_bankOf_46 rfl rfl rfl
  · rw [if_pos c1]
    refine V_aload_n (pc := 4) (i := 0) dX11_bankOf_4 rfl rfl ?_
    refine VW_getR (pc := 5) dX11_bankOf_5 fX11_19 (by first | assumption | rfl) rfl ?_
    refine VW_getR (pc := 8) dX11_bankOf_8 fX11_191 (by first | assumption | rfl) rfl ?_
    refine V_iload_n (pc := 11) (i := 1) dX11_bankOf_11 rfl rfl ?_
    refine VW_ialdN (pc := 12) dX11_bankOf_12 (by first | assumption | rfl) rfl (by omega) (by first | decide | omega) ?_
    exact VE_iret (pc := 13) dX11_bankOf_13 rfl rfl rfl
theorem X11_happiest {s n pp r bb : Nat} (ci : RI S s n pp r bb) {v : Nat} (hv : v ≤ 2) (hb : gB G ≤ b) (hd : 5 ≤ d) : VM G mX11_happiest d 0 0 [.ref (b + 0), .int (nI v)] (xE (some (.int (mstF (fun i => sumB (S (s + 1)) (bankF S s n v i) 10 0 0) pp 0 (-1) 0))) (wH G b tbC (S) h0)) (wH G b tbC S h0) := by
  obtain ⟨hsh, hn, h12, hg, hp, h8, hr, h7, hbb, hb8⟩ := id ci
  have hs := shC_or (S 0 9)
  have hS := tbC_shore (S 0 9)
  rw [hsh] at hs hS
  obtain ⟨a0, a1, a2, a3, a4, a5, a6, a7⟩ := id hS
  obtain ⟨i0, i1, i2, i3⟩ := id a2
  obtain ⟨r0, r1, r2⟩ := id a3
  refine VM_start (ls := [some (.ref (b + 0)), some (.int (nI v)), none, none, none, none]) rfl ?_
  -- %m X11_happiest
  refine V_iload_n (pc := 0) (i := 1) dX11_happiest_0 rfl rfl ?_
  refine V_iconst (pc := 1) (v := 2) dX11_happiest_1 (by decide) ?_
  refine V_S2v (pc := 2) dX11_happiest_2 cX11_247 (X11_mustBeWhat_ok (m := 2) (d := 0) hv (by decide)) (Nat.le_of_ble_eq_true rfl) (by omega) (Nat.le_of_ble_eq_true rfl) ?_
  refine V_iconst (pc := 5) (v := -1) dX11_happiest_5 (by decide) ?_
  refine V_istore_n (pc := 6) (i := 2) dX11_happiest_6 rfl (by decide) rfl ?_
  refine V_iconst (pc := 7) (v := 0) dX11_happiest_7 (by decide) ?_
  refine V_istore_n (pc := 8) (i := 3) dX11_happiest_8 rfl (by decide) rfl ?_
  refine V_iconst (pc := 9) (v := 0) dX11_happiest_9 (by decide) ?_
  refine V_istore (pc := 10) dX11_happiest_10 (by decide) rfl ?_
  have loop : ∀ (m i : Nat) (z : Int32) (y : Int32), m + i = pp → V G mX11_happiest d 0 0 (xE (some (.int (mstF (fun i => sumB (S (s + 1)) (bankF S s n v i) 10 0 0) m i z y))) (wH G b tbC (S) h0)) 12 [some (.ref (b + 0)), some (.int (nI v)), some (.int z), some (.int y), some (.int (nI i)), none] [] (wH G b tbC (S) h0) := by
    intro m
    induction m with
    | zero =>
      intro i z y hm
      refine V_iload (pc := 12) dX11_happiest_12 rfl ?_
      refine V_aload_n (pc := 14) (i := 0) dX11_happiest_14 rfl rfl ?_
      refine VW_getWs (pc := 15) dX11_happiest_15 fX11_68 (by first | assumption | rfl) rfl (by first | assumption | (simp (disch := omega) only [up2_row, up2_col, up2_same, upR_row]; assumption)) ?_
      refine VW_getI (pc := 18) dX11_happiest_18 fX11_120 (by first | assumption | rfl) rfl ?_
      refine V_icmp_ge (pc := 21) 63 dX11_happiest_21 rfl (fun c21 => ?_) (fun c21 => ?_)
      · refine V_iload_n (pc := 63) (i := 2) dX11_happiest_63 rfl rfl ?_
        exact VE_iret (pc := 64) dX11_happiest_64 rfl rfl rfl
      · exact absurd (by rw [hp, show i = pp by omega]; exact nI_le (by omega) (by omega)) c21
    | succ m ih =>
      intro i z y hm
      rw [mstF]
      refine V_iload (pc := 12) dX11_happiest_12 rfl ?_
      refine V_aload_n (pc := 14) (i := 0) dX11_happiest_14 rfl rfl ?_
      refine VW_getWs (pc := 15) dX11_happiest_15 fX11_68 (by first | assumption | rfl) rfl (by first | assumption | (simp (disch := omega) only [up2_row, up2_col, up2_same, upR_row]; assumption)) ?_
      refine VW_getI (pc := 18) dX11_happiest_18 fX11_120 (by first | assumption | rfl) rfl ?_
      refine V_icmp_ge (pc := 21) 63 dX11_happiest_21 rfl (fun c21 => ?_) (fun c21 => ?_)
      · exact absurd c21 (by rw [hp]; exact nI_ge (by omega) (by omega))
      · refine V_aload_n (pc := 24) (i := 0) dX11_happiest_24 rfl rfl ?_
        refine VW_getWs (pc := 25) dX11_happiest_25 fX11_68 (by first | assumption | rfl) rfl (by first | assumption | (simp (disch := omega) only [up2_row, up2_col, up2_same, upR_row]; assumption)) ?_
        refine V_aload_n (pc := 28) (i := 0) dX11_happiest_28 rfl rfl ?_
        refine V_iload (pc := 29) dX11_happiest_29 rfl ?_
        refine V_iload_n (pc := 31) (i := 1) dX11_happiest_31 rfl rfl ?_
        refine V_V2i (pc := 32) dX11_happiest_32 cX11_284 (by first | assumption | rfl) (X11_bankOf (d := 4) ci (by omega) hv hb (by omega)) (Nat.le_of_ble_eq_true rfl) (by omega) (Nat.le_of_ble_eq_true rfl) ?_
        refine V_V1i (pc := 35) dX11_happiest_35 cX11_287 (by first | assumption | rfl) (X7_worthOf (d := 1) hS (by omega) _) (Nat.le_of_ble_eq_true rfl) (by omega) (Nat.le_of_ble_eq_true rfl) ?_
        refine V_istore (pc := 38) dX11_happiest_38 (by decide) rfl ?_
        refine V_iload_n (pc := 40) (i := 2) dX11_happiest_40 rfl rfl ?_
        refine V_iconst (pc := 41) (v := -1) dX11_happiest_41 (by decide) ?_
        refine V_icmp_eq (pc := 42) 51 dX11_happiest_42 rfl (fun c42 => ?_) (fun c42 => ?_)
        · rw [if_pos (Or.inl c42)]
          refine V_iload (pc := 51) dX11_happiest_51 rfl ?_
          refine V_istore_n (pc := 53) (i := 3) dX11_happiest_53 rfl (by decide) rfl ?_
          refine V_iload (pc := 54) dX11_happiest_54 rfl ?_
          refine V_istore_n (pc := 56) (i := 2) dX11_happiest_56 rfl (by decide) rfl ?_
          refine V_iinc (pc := 57) dX11_happiest_57 (by decide) rfl rfl (iincN (n := 1) (by decide)) ?_
          refine V_goto (pc := 60) 12 dX11_happiest_60 rfl ?_
          exact V_forget 5 (ih (i + 1) _ _ (by omega))
        · refine V_iload (pc := 45) dX11_happiest_45 rfl ?_
          refine V_iload_n (pc := 47) (i := 3) dX11_happiest_47 rfl rfl ?_
          refine V_icmp_le (pc := 48) 57 dX11_happiest_48 rfl (fun c48 => ?_) (fun c48 => ?_)
          · rw [if_neg (fun q => q.elim c42 (Int32.not_lt.mpr c48))]
            refine V_iinc (pc := 57) dX11_happiest_57 (by decide) rfl rfl (iincN (n := 1) (by decide)) ?_
            refine V_goto (pc := 60) 12 dX11_happiest_60 rfl ?_
            exact V_forget 5 (ih (i + 1) _ _ (by omega))
          · rw [if_pos (Or.inr (Int32.not_le.mp c48))]
            refine V_iload (pc := 51) dX11_happiest_51 rfl ?_
            refine V_istore_n (pc := 53) (i := 3) dX11_happiest_53 rfl (by decide) rfl ?_
            refine V_iload (pc := 54) dX11_happiest_54 rfl ?_
            refine V_istore_n (pc := 56) (i := 2) dX11_happiest_56 rfl (by decide) rfl ?_
            refine V_iinc (pc := 57) dX11_happiest_57 (by decide) rfl rfl (iincN (n := 1) (by decide)) ?_
            refine V_goto (pc := 60) 12 dX11_happiest_60 rfl ?_
            exact V_forget 5 (ih (i + 1) _ _ (by omega))
  exact loop pp 0 _ _ rfl
theorem X11_critical {s n pp r bb : Nat} (ci : RI S s n pp r bb) {q : Nat} (hq : q < pp) (hb : gB G ≤ b) (hd : 3 ≤ d) : VM G mX11_critical d 0 0 [.ref (b + 0), .int (nI q)] (xE (some (.int (colB (fun i => !decide (allF (cF S (s + 2) n (S 17 4 ||| 1 <<< (nI i &&& 31))) (S (s + 5)) 10 (S 18 q ||| 1 <<< (S 19 q &&& 31)) = cThere S s 17 n q)) n 0 0))) (wH G b tbC (S) h0)) (wH G b tbC S h0) := by
  obtain ⟨hsh, hn, h12, hg, hp, h8, hr, h7, hbb, hb8⟩ := id ci
  have hs := shC_or (S 0 9)
  have hS := tbC_shore (S 0 9)
  rw [hsh] at hs hS
  obtain ⟨a0, a1, a2, a3, a4, a5, a6, a7⟩ := id hS
  obtain ⟨i0, i1, i2, i3⟩ := id a2
  obtain ⟨r0, r1, r2⟩ := id a3
  refine VM_start (ls := [some (.ref (b + 0)), some (.int (nI q)), none, none, none, none]) rfl ?_
  -- %m X11_critical
  refine V_aload_n (pc := 0) (i := 0) dX11_critical_0 rfl rfl ?_
  refine V_iload_n (pc := 1) (i := 1) dX11_critical_1 rfl rfl ?_
  refine V_V1v (pc := 2) dX11_critical_2 cX11_188 (by first | assumption | rfl) (X11_mustBePerson_ok (d := 0) hsh hp h8 hq) (Nat.le_of_ble_eq_true rfl) (by omega) (Nat.le_of_ble_eq_true rfl) ?_
  refine V_aload_n (pc := 5) (i := 0) dX11_critical_5 rfl rfl ?_
  refine VW_getR (pc := 6) dX11_critical_6 fX11_19 (by first | assumption | rfl) rfl ?_
  refine VW_getR (pc := 9) dX11_critical_9 fX11_191 (by first | assumption | rfl) rfl ?_
  refine V_iload_n (pc := 12) (i := 1) dX11_critical_12 rfl rfl ?_
  refine VW_ialdN (pc := 13) dX11_critical_13 (by first | assumption | rfl) rfl (by omega) (by first | decide | omega) ?_
  refine V_iconst (pc := 14) (v := 1) dX11_critical_14 (by decide) ?_
  refine V_aload_n (pc := 15) (i := 0) dX11_critical_15 rfl rfl ?_
  refine VW_getR (pc := 16) dX11_critical_16 fX11_19 (by first | assumption | rfl) rfl ?_
  refine VW_getR (pc := 19) dX11_critical_19 fX11_194 (by first | assumption | rfl) rfl ?_
  refine V_iload_n (pc := 22) (i := 1) dX11_critical_22 rfl rfl ?_
  refine VW_ialdN (pc := 23) dX11_critical_23 (by first | assumption | rfl) rfl (by omega) (by first | decide | omega) ?_
  refine V_ishl (pc := 24) dX11_critical_24 ?_
  refine V_ior (pc := 25) dX11_critical_25 ?_
  refine V_istore_n (pc := 26) (i := 2) dX11_critical_26 rfl (by decide) rfl ?_
  refine V_aload_n (pc := 27) (i := 0) dX11_critical_27 rfl rfl ?_
  refine VW_getWs (pc := 28) dX11_critical_28 fX11_68 (by first | assumption | rfl) rfl (by first | assumption | (simp (disch := omega) only [up2_row, up2_col, up2_same, upR_row]; assumption)) ?_
  refine VW_getR (pc := 31) dX11_critical_31 fX11_123 (by first | assumption | rfl) rfl ?_
  refine V_iload_n (pc := 34) (i := 2) dX11_critical_34 rfl rfl ?_
  refine V_aload_n (pc := 35) (i := 0) dX11_critical_35 rfl rfl ?_
  refine VW_getR (pc := 36) dX11_critical_36 fX11_19 (by first | assumption | rfl) rfl ?_
  refine VW_getI (pc := 39) dX11_critical_39 fX11_139 (by first | assumption | rfl) rfl ?_
  refine V_V2i (pc := 42) dX11_critical_42 cX11_262 (by first | assumption | rfl) (X1_allFrom (d := 2) a2 hn h12 (by omega) _ _) (Nat.le_of_ble_eq_true rfl) (by omega) (Nat.le_of_ble_eq_true rfl) ?_
  refine V_istore_n (pc := 45) (i := 3) dX11_critical_45 rfl (by decide) rfl ?_
  refine V_iconst (pc := 46) (v := 0) dX11_critical_46 (by decide) ?_
  refine V_istore (pc := 47) dX11_critical_47 (by decide) rfl ?_
  refine V_iconst (pc := 49) (v := 0) dX11_critical_49 (by decide) ?_
  refine V_istore (pc := 50) dX11_critical_50 (by decide) rfl ?_
  have loop : ∀ (m i : Nat) (x : Int32), m + i = n → V G mX11_critical d 0 0 (xE (some (.int (colB (fun i => !decide (allF (cF S (s + 2) n (S 17 4 ||| 1 <<< (nI i &&& 31))) (S (s + 5)) 10 (S 18 q ||| 1 <<< (S 19 q &&& 31)) = cThere S s 17 n q)) m i x))) (wH G b tbC (S) h0)) 52 [some (.ref (b + 0)), some (.int (nI q)), some (.int ((S 18 q ||| 1 <<< (S 19 q &&& 31)))), some (.int ((cThere S s 17 n q))), some (.int x), some (.int (nI i))] [] (wH G b tbC (S) h0) := by
    intro m
    induction m with
    | zero =>
      intro i x hm
      refine V_iload (pc := 52) dX11_critical_52 rfl ?_
      refine V_aload_n (pc := 54) (i := 0) dX11_critical_54 rfl rfl ?_
      refine VW_getWs (pc := 55) dX11_critical_55 fX11_68 (by first | assumption | rfl) rfl (by first | assumption | (simp (disch := omega) only [up2_row, up2_col, up2_same, upR_row]; assumption)) ?_
      refine VW_getR (pc := 58) dX11_critical_58 fX11_123 (by first | assumption | rfl) rfl ?_
      refine VW_getI (pc := 61) dX11_critical_61 fX11_127 (by first | assumption | rfl) rfl ?_
      refine V_icmp_ge (pc := 64) 109 dX11_critical_64 rfl (fun c64 => ?_) (fun c64 => ?_)
      · refine V_iload (pc := 109) dX11_critical_109 rfl ?_
        exact VE_iret (pc := 111) dX11_critical_111 rfl rfl rfl
      · exact absurd (by rw [hn, show i = n by omega]; exact nI_le (by omega) (by omega)) c64
    | succ m ih =>
      intro i x hm
      rw [colB]
      refine V_iload (pc := 52) dX11_critical_52 rfl ?_
      refine V_aload_n (pc := 54) (i := 0) dX11_critical_54 rfl rfl ?_
      refine VW_getWs (pc := 55) dX11_critical_55 fX11_68 (by first | assumption | rfl) rfl (by first | assumption | (simp (disch := omega) only [up2_row, up2_col, up2_same, upR_row]; assumption)) ?_
      refine VW_getR (pc := 58) dX11_critical_58 fX11_123 (by first | assumption | rfl) rfl ?_
      refine VW_getI (pc := 61) dX11_critical_61 fX11_127 (by first | assumption | rfl) rfl ?_
      refine V_icmp_ge (pc := 64) 109 dX11_critical_64 rfl (fun c64 => ?_) (fun c64 => ?_)
      · exact absurd c64 (by rw [hn]; exact nI_ge (by omega) (by omega))
      · refine V_aload_n (pc := 67) (i := 0) dX11_critical_67 rfl rfl ?_
        refine VW_getWs (pc := 68) dX11_critical_68 fX11_68 (by first | assumption | rfl) rfl (by first | assumption | (simp (disch := omega) only [up2_row, up2_col, up2_same, upR_row]; assumption)) ?_
        refine VW_getR (pc := 71) dX11_critical_71 fX11_123 (by first | assumption | rfl) rfl ?_
        refine V_iload_n (pc := 74) (i := 2) dX11_critical_74 rfl rfl ?_
        refine V_aload_n (pc := 75) (i := 0) dX11_critical_75 rfl rfl ?_
        refine VW_getR (pc := 76) dX11_critical_76 fX11_19 (by first | assumption | rfl) rfl ?_
        refine VW_getI (pc := 79) dX11_critical_79 fX11_139 (by first | assumption | rfl) rfl ?_
        refine V_iconst (pc := 82) (v := 1) dX11_critical_82 (by decide) ?_
        refine V_iload (pc := 83) dX11_critical_83 rfl ?_
        refine V_ishl (pc := 85) dX11_critical_85 ?_
        refine V_ior (pc := 86) dX11_critical_86 ?_
        refine V_V2i (pc := 87) dX11_critical_87 cX11_262 (by first | assumption | rfl) (X1_allFrom (d := 2) a2 hn h12 (by omega) _ _) (Nat.le_of_ble_eq_true rfl) (by omega) (Nat.le_of_ble_eq_true rfl) ?_
        refine V_iload_n (pc := 90) (i := 3) dX11_critical_90 rfl rfl ?_
        refine V_icmp_eq (pc := 91) 103 dX11_critical_91 rfl (fun c91 => ?_) (fun c91 => ?_)
        · rw [if_neg (by intro z; simp only [Bool.not_eq_true', decide_eq_false_iff_not] at z; exact z c91)]
          refine V_iinc (pc := 103) dX11_critical_103 (by decide) rfl rfl (iincN (n := 1) (by decide)) ?_
          refine V_goto (pc := 106) 52 dX11_critical_106 rfl ?_
          exact ih (i + 1) _ (by omega)
        · rw [if_pos (by simp only [Bool.not_eq_true', decide_eq_false_iff_not]; exact c91)]
          refine V_iload (pc := 94) dX11_critical_94 rfl ?_
          refine V_iconst (pc := 96) (v := 1) dX11_critical_96 (by decide) ?_
          refine V_iload (pc := 97) dX11_critical_97 rfl ?_
          refine V_ishl (pc := 99) dX11_critical_99 ?_
          refine V_ior (pc := 100) dX11_critical_100 ?_
          refine V_istore (pc := 101) dX11_critical_101 (by decide) rfl ?_
          refine V_iinc (pc := 103) dX11_critical_103 (by decide) rfl rfl (iincN (n := 1) (by decide)) ?_
          refine V_goto (pc := 106) 52 dX11_critical_106 rfl ?_
          exact ih (i + 1) _ (by omega)
  exact loop n 0 _ rfl
theorem X11_common {s n pp r bb : Nat} (ci : RI S s n pp r bb) {q o : Nat} (hq : q < pp) (ho : o < pp) (hb : gB G ≤ b) (hd : 4 ≤ d) : VM G mX11_common d 0 0 [.ref (b + 0), .int (nI q), .int (nI o)] (xE (some (.int (cThere S s 17 n q &&& cThere S s 17 n o))) (wH G b tbC (S) h0)) (wH G b tbC S h0) := by
  obtain ⟨hsh, hn, h12, hg, hp, h8, hr, h7, hbb, hb8⟩ := id ci
  have hs := shC_or (S 0 9)
  have hS := tbC_shore (S 0 9)
  rw [hsh] at hs hS
  obtain ⟨a0, a1, a2, a3, a4, a5, a6, a7⟩ := id hS
  obtain ⟨i0, i1, i2, i3⟩ := id a2
  obtain ⟨r0, r1, r2⟩ := id a3
  refine VM_start (ls := [some (.ref (b + 0)), some (.int (nI q)), some (.int (nI o))]) rfl ?_
  -- %m X11_common
  refine V_aload_n (pc := 0) (i := 0) dX11_common_0 rfl rfl ?_
  refine V_iload_n (pc := 1) (i := 1) dX11_common_1 rfl rfl ?_
  refine V_V1v (pc := 2) dX11_common_2 cX11_188 (by first | assumption | rfl) (X11_mustBePerson_ok (d := 0) hsh hp h8 hq) (Nat.le_of_ble_eq_true rfl) (by omega) (Nat.le_of_ble_eq_true rfl) ?_
  refine V_aload_n (pc := 5) (i := 0) dX11_common_5 rfl rfl ?_
  refine V_iload_n (pc := 6) (i := 2) dX11_common_6 rfl rfl ?_
  refine V_V1v (pc := 7) dX11_common_7 cX11_188 (by first | assumption | rfl) (X11_mustBePerson_ok (d := 0) hsh hp h8 ho) (Nat.le_of_ble_eq_true rfl) (by omega) (Nat.le_of_ble_eq_true rfl) ?_
  refine V_aload_n (pc := 10) (i := 0) dX11_common_10 rfl rfl ?_
  refine VW_getWs (pc := 11) dX11_common_11 fX11_68 (by first | assumption | rfl) rfl (by first | assumption | (simp (disch := omega) only [up2_row, up2_col, up2_same, upR_row]; assumption)) ?_
  refine V_aload_n (pc := 14) (i := 0) dX11_common_14 rfl rfl ?_
  refine VW_getR (pc := 15) dX11_common_15 fX11_19 (by first | assumption | rfl) rfl ?_
  refine V_iload_n (pc := 18) (i := 1) dX11_common_18 rfl rfl ?_
  refine V_V2i (pc := 19) dX11_common_19 cX11_206 (by first | assumption | rfl) (X7_thereOf (d := 3) hS tbC_17 hn h12 (by omega) (by omega)) (Nat.le_of_ble_eq_true rfl) (by omega) (Nat.le_of_ble_eq_true rfl) ?_
  refine V_aload_n (pc := 22) (i := 0) dX11_common_22 rfl rfl ?_
  refine VW_getWs (pc := 23) dX11_common_23 fX11_68 (by first | assumption | rfl) rfl (by first | assumption | (simp (disch := omega) only [up2_row, up2_col, up2_same, upR_row]; assumption)) ?_
  refine V_aload_n (pc := 26) (i := 0) dX11_common_26 rfl rfl ?_
  refine VW_getR (pc := 27) dX11_common_27 fX11_19 (by first | assumption | rfl) rfl ?_
  refine V_iload_n (pc := 30) (i := 2) dX11_common_30 rfl rfl ?_
  refine V_V2i (pc := 31) dX11_common_31 cX11_206 (by first | assumption | rfl) (X7_thereOf (d := 3) hS tbC_17 hn h12 (by omega) (by omega)) (Nat.le_of_ble_eq_true rfl) (by omega) (Nat.le_of_ble_eq_true rfl) ?_
  refine V_iand (pc := 34) dX11_common_34 ?_
  exact VE_iret (pc := 35) dX11_common_35 rfl rfl rfl
theorem X11_apart {s n pp r bb : Nat} (ci : RI S s n pp r bb) {q o : Nat} (hq : q < pp) (ho : o < pp) (hb : gB G ≤ b) (hd : 4 ≤ d) : VM G mX11_apart d 0 0 [.ref (b + 0), .int (nI q), .int (nI o)] (xE (some (.int (bcI (cThere S s 17 n q ^^^ cThere S s 17 n o)))) (wH G b tbC (S) h0)) (wH G b tbC S h0) := by
  obtain ⟨hsh, hn, h12, hg, hp, h8, hr, h7, hbb, hb8⟩ := id ci
  have hs := shC_or (S 0 9)
  have hS := tbC_shore (S 0 9)
  rw [hsh] at hs hS
  obtain ⟨a0, a1, a2, a3, a4, a5, a6, a7⟩ := id hS
  obtain ⟨i0, i1, i2, i3⟩ := id a2
  obtain ⟨r0, r1, r2⟩ := id a3
  refine VM_start (ls := [some (.ref (b + 0)), some (.int (nI q)), some (.int (nI o))]) rfl ?_
  -- %m X11_apart
  refine V_aload_n (pc := 0) (i := 0) dX11_apart_0 rfl rfl ?_
  refine V_iload_n (pc := 1) (i := 1) dX11_apart_1 rfl rfl ?_
  refine V_V1v (pc := 2) dX11_apart_2 cX11_188 (by first | assumption | rfl) (X11_mustBePerson_ok (d := 0) hsh hp h8 hq) (Nat.le_of_ble_eq_true rfl) (by omega) (Nat.le_of_ble_eq_true rfl) ?_
  refine V_aload_n (pc := 5) (i := 0) dX11_apart_5 rfl rfl ?_
  refine V_iload_n (pc := 6) (i := 2) dX11_apart_6 rfl rfl ?_
  refine V_V1v (pc := 7) dX11_apart_7 cX11_188 (by first | assumption | rfl) (X11_mustBePerson_ok (d := 0) hsh hp h8 ho) (Nat.le_of_ble_eq_true rfl) (by omega) (Nat.le_of_ble_eq_true rfl) ?_
  refine V_aload_n (pc := 10) (i := 0) dX11_apart_10 rfl rfl ?_
  refine VW_getWs (pc := 11) dX11_apart_11 fX11_68 (by first | assumption | rfl) rfl (by first | assumption | (simp (disch := omega) only [up2_row, up2_col, up2_same, upR_row]; assumption)) ?_
  refine V_aload_n (pc := 14) (i := 0) dX11_apart_14 rfl rfl ?_
  refine VW_getR (pc := 15) dX11_apart_15 fX11_19 (by first | assumption | rfl) rfl ?_
  refine V_iload_n (pc := 18) (i := 1) dX11_apart_18 rfl rfl ?_
  refine V_V2i (pc := 19) dX11_apart_19 cX11_206 (by first | assumption | rfl) (X7_thereOf (d := 3) hS tbC_17 hn h12 (by omega) (by omega)) (Nat.le_of_ble_eq_true rfl) (by omega) (Nat.le_of_ble_eq_true rfl) ?_
  refine V_aload_n (pc := 22) (i := 0) dX11_apart_22 rfl rfl ?_
  refine VW_getWs (pc := 23) dX11_apart_23 fX11_68 (by first | assumption | rfl) rfl (by first | assumption | (simp (disch := omega) only [up2_row, up2_col, up2_same, upR_row]; assumption)) ?_
  refine V_aload_n (pc := 26) (i := 0) dX11_apart_26 rfl rfl ?_
  refine VW_getR (pc := 27) dX11_apart_27 fX11_19 (by first | assumption | rfl) rfl ?_
  refine V_iload_n (pc := 30) (i := 2) dX11_apart_30 rfl rfl ?_
  refine V_V2i (pc := 31) dX11_apart_31 cX11_206 (by first | assumption | rfl) (X7_thereOf (d := 3) hS tbC_17 hn h12 (by omega) (by omega)) (Nat.le_of_ble_eq_true rfl) (by omega) (Nat.le_of_ble_eq_true rfl) ?_
  refine V_ixor (pc := 34) dX11_apart_34 ?_
  refine V_S1i (pc := 35) dX11_apart_35 cX11_257 (J6_bitCount (d := 0) _) (Nat.le_of_ble_eq_true rfl) (by omega) (Nat.le_of_ble_eq_true rfl) ?_
  exact VE_iret (pc := 38) dX11_apart_38 rfl rfl rfl
theorem X11_unhad {s n pp r bb : Nat} (ci : RI S s n pp r bb) (hb : gB G ≤ b) (hd : 4 ≤ d) : VM G mX11_unhad d 0 0 [.ref (b + 0)] (xE (some (.int (1023 &&& (orN (cThere S s 17 n) pp 0 0 ^^^ -1)))) (wH G b tbC (S) h0)) (wH G b tbC S h0) := by
  obtain ⟨hsh, hn, h12, hg, hp, h8, hr, h7, hbb, hb8⟩ := id ci
  have hs := shC_or (S 0 9)
  have hS := tbC_shore (S 0 9)
  rw [hsh] at hs hS
  obtain ⟨a0, a1, a2, a3, a4, a5, a6, a7⟩ := id hS
  obtain ⟨i0, i1, i2, i3⟩ := id a2
  obtain ⟨r0, r1, r2⟩ := id a3
  refine VM_start (ls := [some (.ref (b + 0)), none, none]) rfl ?_
  -- %m X11_unhad
  refine V_iconst (pc := 0) (v := 0) dX11_unhad_0 (by decide) ?_
  refine V_istore_n (pc := 1) (i := 1) dX11_unhad_1 rfl (by decide) rfl ?_
  refine V_iconst (pc := 2) (v := 0) dX11_unhad_2 (by decide) ?_
  refine V_istore_n (pc := 3) (i := 2) dX11_unhad_3 rfl (by decide) rfl ?_
  have loop : ∀ (m i : Nat) (x : Int32), m + i = pp → V G mX11_unhad d 0 0 (xE (some (.int (1023 &&& (orN (cThere S s 17 n) m i x ^^^ -1)))) (wH G b tbC (S) h0)) 4 [some (.ref (b + 0)), some (.int x), some (.int (nI i))] [] (wH G b tbC (S) h0) := by
    intro m
    induction m with
    | zero =>
      intro i x hm
      refine V_iload_n (pc := 4) (i := 2) dX11_unhad_4 rfl rfl ?_
      refine V_aload_n (pc := 5) (i := 0) dX11_unhad_5 rfl rfl ?_
      refine VW_getWs (pc := 6) dX11_unhad_6 fX11_68 (by first | assumption | rfl) rfl (by first | assumption | (simp (disch := omega) only [up2_row, up2_col, up2_same, upR_row]; assumption)) ?_
      refine VW_getI (pc := 9) dX11_unhad_9 fX11_120 (by first | assumption | rfl) rfl ?_
      refine V_icmp_ge (pc := 12) 36 dX11_unhad_12 rfl (fun c12 => ?_) (fun c12 => ?_)
      · refine V_sipush (pc := 36) (v := 1023) dX11_unhad_36 (by decide) ?_
        refine V_iload_n (pc := 39) (i := 1) dX11_unhad_39 rfl rfl ?_
        refine V_iconst (pc := 40) (v := -1) dX11_unhad_40 (by decide) ?_
        refine V_ixor (pc := 41) dX11_unhad_41 ?_
        refine V_iand (pc := 42) dX11_unhad_42 ?_
        exact VE_iret (pc := 43) dX11_unhad_43 rfl rfl rfl
      · exact absurd (by rw [hp, show i = pp by omega]; exact nI_le (by omega) (by omega)) c12
    | succ m ih =>
      intro i x hm
      rw [orN]
      refine V_iload_n (pc := 4) (i := 2) dX11_unhad_4 rfl rfl ?_
      refine V_aload_n (pc := 5) (i := 0) dX11_unhad_5 rfl rfl ?_
      refine VW_getWs (pc := 6) dX11_unhad_6 fX11_68 (by first | assumption | rfl) rfl (by first | assumption | (simp (disch := omega) only [up2_row, up2_col, up2_same, upR_row]; assumption)) ?_
      refine VW_getI (pc := 9) dX11_unhad_9 fX11_120 (by first | assumption | rfl) rfl ?_
      refine V_icmp_ge (pc := 12) 36 dX11_unhad_12 rfl (fun c12 => ?_) (fun c12 => ?_)
      · exact absurd c12 (by rw [hp]; exact nI_ge (by omega) (by omega))
      · refine V_iload_n (pc := 15) (i := 1) dX11_unhad_15 rfl rfl ?_
        refine V_aload_n (pc := 16) (i := 0) dX11_unhad_16 rfl rfl ?_
        refine VW_getWs (pc := 17) dX11_unhad_17 fX11_68 (by first | assumption | rfl) rfl (by first | assumption | (simp (disch := omega) only [up2_row, up2_col, up2_same, upR_row]; assumption)) ?_
        refine V_aload_n (pc := 20) (i := 0) dX11_unhad_20 rfl rfl ?_
        refine VW_getR (pc := 21) dX11_unhad_21 fX11_19 (by first | assumption | rfl) rfl ?_
        refine V_iload_n (pc := 24) (i := 2) dX11_unhad_24 rfl rfl ?_
        refine V_V2i (pc := 25) dX11_unhad_25 cX11_206 (by first | assumption | rfl) (X7_thereOf (d := 3) hS tbC_17 hn h12 (by omega) (by omega)) (Nat.le_of_ble_eq_true rfl) (by omega) (Nat.le_of_ble_eq_true rfl) ?_
        refine V_ior (pc := 28) dX11_unhad_28 ?_
        refine V_istore_n (pc := 29) (i := 1) dX11_unhad_29 rfl (by decide) rfl ?_
        refine V_iinc (pc := 30) dX11_unhad_30 (by decide) rfl rfl (iincN (n := 1) (by decide)) ?_
        refine V_goto (pc := 33) 4 dX11_unhad_33 rfl ?_
        exact ih (i + 1) _ (by omega)
  exact loop pp 0 _ rfl
theorem X11_see_no {s n pp r bb : Nat} (ci : RI S s n pp r bb) {q t : Nat} (hq : q < pp) (ht : t < 10) {v : Int32} (hz : S 24 3 = 8) (hb : gB G ≤ b) (hd : 1 ≤ d) : VM G mX11_see d 0 0 [.ref (b + 0), .int (nI q), .int (nI t), .int v] (xE (some (.int (-1))) (wH G b tbC (up2 S 27 2 (S 27 2 + 1)) h0)) (wH G b tbC S h0) := by
  obtain ⟨hsh, hn, h12, hg, hp, h8, hr, h7, hbb, hb8⟩ := id ci
  have hs := shC_or (S 0 9)
  have hS := tbC_shore (S 0 9)
  rw [hsh] at hs hS
  obtain ⟨a0, a1, a2, a3, a4, a5, a6, a7⟩ := id hS
  obtain ⟨i0, i1, i2, i3⟩ := id a2
  obtain ⟨r0, r1, r2⟩ := id a3
  refine VM_start (ls := [some (.ref (b + 0)), some (.int (nI q)), some (.int (nI t)), some (.int v)]) rfl ?_
  -- %m X11_see
  refine V_aload_n (pc := 0) (i := 0) dX11_see_0 rfl rfl ?_
  refine V_iload_n (pc := 1) (i := 1) dX11_see_1 rfl rfl ?_
  refine V_V1v (pc := 2) dX11_see_2 cX11_188 (by first | assumption | rfl) (X11_mustBePerson_ok (d := 0) hsh hp h8 hq) (Nat.le_of_ble_eq_true rfl) (by omega) (Nat.le_of_ble_eq_true rfl) ?_
  refine V_iload_n (pc := 5) (i := 2) dX11_see_5 rfl rfl ?_
  refine V_S1v (pc := 6) dX11_see_6 cX11_161 (X11_mustBeThing_ok (d := 0) ht) (Nat.le_of_ble_eq_true rfl) (by omega) (Nat.le_of_ble_eq_true rfl) ?_
  refine V_aload_n (pc := 9) (i := 0) dX11_see_9 rfl rfl ?_
  refine VW_getR (pc := 10) dX11_see_10 fX11_33 (by first | assumption | rfl) rfl ?_
  refine V_iload_n (pc := 13) (i := 1) dX11_see_13 rfl rfl ?_
  refine V_iload_n (pc := 14) (i := 2) dX11_see_14 rfl rfl ?_
  refine V_iload_n (pc := 15) (i := 3) dX11_see_15 rfl rfl ?_
  refine V_V3i (pc := 16) dX11_see_16 cX11_293 (by first | assumption | rfl) (X5_put_full (d := 0) tbC_24 hz _ _ _) (Nat.le_of_ble_eq_true rfl) (by omega) (Nat.le_of_ble_eq_true rfl) ?_
  refine V_if_ne (pc := 19) 34 dX11_see_19 rfl (fun c19 => ?_) (fun c19 => ?_)
  · exact absurd rfl c19
  · refine V_aload_n (pc := 22) (i := 0) dX11_see_22 rfl rfl ?_
    refine VW_getR (pc := 23) dX11_see_23 fX11_37 (by first | assumption | rfl) rfl ?_
    refine V_iconst (pc := 26) (v := 2) dX11_see_26 (by decide) ?_
    refine V_dup2 (pc := 27) dX11_see_27 rfl rfl ?_
    refine VW_ialdN (pc := 28) dX11_see_28 (by first | assumption | rfl) (j := 2) rfl (by decide) (by first | decide | omega) ?_
    refine V_iconst (pc := 29) (v := 1) dX11_see_29 (by decide) ?_
    refine V_iadd (pc := 30) dX11_see_30 ?_
    refine VW_iastN (pc := 31) dX11_see_31 (by first | assumption | rfl) (by assumption) (j := 2) rfl (by decide) (by first | decide | omega) ?_
    refine V_iconst (pc := 32) (v := -1) dX11_see_32 (by decide) ?_
    exact VE_iret (pc := 33) dX11_see_33 rfl rfl rfl
theorem X11_see_ok {s n pp r bb : Nat} (ci : RI S s n pp r bb) {q t ns : Nat} (hq : q < pp) (ht : t < 10) {v : Int32} (hv : v = 0 ∨ v = 1) (hz : S 24 3 = nI ns) (hns : ns < 8) (hb : gB G ≤ b) (hd : 1 ≤ d) : VM G mX11_see d 0 0 [.ref (b + 0), .int (nI q), .int (nI t), .int v] (xE (some (.int (nI ns + 1))) (wH G b tbC (seenPut S 24 ns (nI q) (nI t) (if v = 0 then 0 else 1 <<< (nI ns &&& 31))) h0)) (wH G b tbC S h0) := by
  obtain ⟨hsh, hn, h12, hg, hp, h8, hr, h7, hbb, hb8⟩ := id ci
  have hs := shC_or (S 0 9)
  have hS := tbC_shore (S 0 9)
  rw [hsh] at hs hS
  obtain ⟨a0, a1, a2, a3, a4, a5, a6, a7⟩ := id hS
  obtain ⟨i0, i1, i2, i3⟩ := id a2
  obtain ⟨r0, r1, r2⟩ := id a3
  refine VM_start (ls := [some (.ref (b + 0)), some (.int (nI q)), some (.int (nI t)), some (.int v)]) rfl ?_
  -- %m X11_see
  refine V_aload_n (pc := 0) (i := 0) dX11_see_0 rfl rfl ?_
  refine V_iload_n (pc := 1) (i := 1) dX11_see_1 rfl rfl ?_
  refine V_V1v (pc := 2) dX11_see_2 cX11_188 (by first | assumption | rfl) (X11_mustBePerson_ok (d := 0) hsh hp h8 hq) (Nat.le_of_ble_eq_true rfl) (by omega) (Nat.le_of_ble_eq_true rfl) ?_
  refine V_iload_n (pc := 5) (i := 2) dX11_see_5 rfl rfl ?_
  refine V_S1v (pc := 6) dX11_see_6 cX11_161 (X11_mustBeThing_ok (d := 0) ht) (Nat.le_of_ble_eq_true rfl) (by omega) (Nat.le_of_ble_eq_true rfl) ?_
  refine V_aload_n (pc := 9) (i := 0) dX11_see_9 rfl rfl ?_
  refine VW_getR (pc := 10) dX11_see_10 fX11_33 (by first | assumption | rfl) rfl ?_
  refine V_iload_n (pc := 13) (i := 1) dX11_see_13 rfl rfl ?_
  refine V_iload_n (pc := 14) (i := 2) dX11_see_14 rfl rfl ?_
  refine V_iload_n (pc := 15) (i := 3) dX11_see_15 rfl rfl ?_
  refine V_V3i (pc := 16) dX11_see_16 cX11_293 (by first | assumption | rfl) (X5_put (d := 0) tbC_24 hb hz hns _ _ _ hv) (Nat.le_of_ble_eq_true rfl) (by omega) (Nat.le_of_ble_eq_true rfl) ?_
  refine V_if_ne (pc := 19) 34 dX11_see_19 rfl (fun c19 => ?_) (fun c19 => ?_)
  · refine V_aload_n (pc := 34) (i := 0) dX11_see_34 rfl rfl ?_
    refine VW_getR (pc := 35) dX11_see_35 fX11_33 (by first | assumption | rfl) rfl ?_
    refine VW_getI (pc := 38) dX11_see_38 fX11_153 (by first | assumption | rfl) rfl ?_
    rw [seenPut, up2_same, ← seenPut]
    exact VE_iret (pc := 41) dX11_see_41 rfl rfl rfl
  · exact absurd c19 (by decide)
theorem X11_forget {s n pp r bb : Nat} (ci : RI S s n pp r bb) (hb : gB G ≤ b) (hd : 1 ≤ d) : VM G mX11_forget d 0 0 [.ref (b + 0)] (xE none (wH G b tbC (up2 (up2 S 24 3 0) 24 2 0) h0)) (wH G b tbC S h0) := by
  obtain ⟨hsh, hn, h12, hg, hp, h8, hr, h7, hbb, hb8⟩ := id ci
  have hs := shC_or (S 0 9)
  have hS := tbC_shore (S 0 9)
  rw [hsh] at hs hS
  obtain ⟨a0, a1, a2, a3, a4, a5, a6, a7⟩ := id hS
  obtain ⟨i0, i1, i2, i3⟩ := id a2
  obtain ⟨r0, r1, r2⟩ := id a3
  refine VM_start (ls := [some (.ref (b + 0))]) rfl ?_
  -- %m X11_forget
  refine V_aload_n (pc := 0) (i := 0) dX11_forget_0 rfl rfl ?_
  refine VW_getR (pc := 1) dX11_forget_1 fX11_33 (by first | assumption | rfl) rfl ?_
  refine V_V0v (pc := 4) dX11_forget_4 cX11_115 (by first | assumption | rfl) (X5_clear (d := 0) tbC_24 hb) (Nat.le_of_ble_eq_true rfl) (by omega) (Nat.le_of_ble_eq_true rfl) ?_
  exact VE_vret (pc := 7) dX11_forget_7 rfl rfl
/-- what THERE would be, were each THING the one that q MISSED -/
def supF (S : Nat → Nat → Int32) (s n q : Nat) (i : Nat) : Int32 := allF (cF S (s + 2) n (S 17 4)) (S (s + 5)) 10 (S 18 q ||| 1 <<< (nI i &&& 31))
theorem X11_supposeEachMissed {s n pp r bb : Nat} (ci : RI S s n pp r bb) {q : Nat} (hq : q < pp) (hb : gB G ≤ b) (hd : 3 ≤ d) : VM G mX11_supposeEachMissed d 0 0 [.ref (b + 0), .int (nI q)] (xE none (wH G b tbC (upR S 43 (layF (supF S s n q) 10 0 (S 43))) h0)) (wH G b tbC S h0) := by
  obtain ⟨hsh, hn, h12, hg, hp, h8, hr, h7, hbb, hb8⟩ := id ci
  have hs := shC_or (S 0 9)
  have hS := tbC_shore (S 0 9)
  rw [hsh] at hs hS
  obtain ⟨a0, a1, a2, a3, a4, a5, a6, a7⟩ := id hS
  obtain ⟨i0, i1, i2, i3⟩ := id a2
  obtain ⟨r0, r1, r2⟩ := id a3
  refine VM_start (ls := [some (.ref (b + 0)), some (.int (nI q)), none]) rfl ?_
  -- %m X11_supposeEachMissed
  refine V_iconst (pc := 0) (v := 0) dX11_supposeEachMissed_0 (by decide) ?_
  refine V_istore_n (pc := 1) (i := 2) dX11_supposeEachMissed_1 rfl (by decide) rfl ?_
  have e0 : wH G b tbC S h0 = wH G b tbC (upR S 43 (S 43)) h0 := by
    congr 1
    funext k' j
    by_cases h : k' = 43
    · subst h; rw [upR_same]
    · rw [upR_row h]
  have loop : ∀ (m i : Nat) (f : Nat → Int32), m + i = 10 → V G mX11_supposeEachMissed d 0 0 (xE none (wH G b tbC (upR S 43 (layF (supF S s n q) m i f)) h0)) 2 [some (.ref (b + 0)), some (.int (nI q)), some (.int (nI i))] [] (wH G b tbC (upR S 43 f) h0) := by
    intro m
    induction m with
    | zero =>
      intro i f hm
      refine V_iload_n (pc := 2) (i := 2) dX11_supposeEachMissed_2 rfl rfl ?_
      refine V_bipush (pc := 3) (v := 10) dX11_supposeEachMissed_3 (by decide) ?_
      refine V_icmp_ge (pc := 5) 50 dX11_supposeEachMissed_5 rfl (fun c5 => ?_) (fun c5 => ?_)
      · exact VE_vret (pc := 50) dX11_supposeEachMissed_50 rfl rfl
      · exact absurd (by rw [show i = 10 by omega]; decide) c5
    | succ m ih =>
      intro i f hm
      rw [layF]
      have hn2 : upR S 43 f (s + 2) 4 = nI n := by rw [upR_row (by omega)]; exact hn
      have hsh2 : shC (upR S 43 f 0 9) = s := by rw [upR_row (by omega)]; exact hsh
      have e1 : allF (cF (upR S 43 f) (s + 2) n (upR S 43 f 17 4)) (upR S 43 f (s + 5)) 10 (upR S 43 f 18 q ||| 1 <<< (nI i &&& 31)) = supF S s n q i := by
        rw [upR_row (by omega), upR_row (by omega), upR_row (by omega), cF_upR (by omega)]; rfl
      refine V_iload_n (pc := 2) (i := 2) dX11_supposeEachMissed_2 rfl rfl ?_
      refine V_bipush (pc := 3) (v := 10) dX11_supposeEachMissed_3 (by decide) ?_
      refine V_icmp_ge (pc := 5) 50 dX11_supposeEachMissed_5 rfl (fun c5 => ?_) (fun c5 => ?_)
      · exact absurd c5 (nI_ge (b := 10) (by omega) (by decide))
      · refine V_aload_n (pc := 8) (i := 0) dX11_supposeEachMissed_8 rfl rfl ?_
        refine VW_getR (pc := 9) dX11_supposeEachMissed_9 fX11_55 (by first | assumption | rfl) rfl ?_
        refine V_iload_n (pc := 12) (i := 2) dX11_supposeEachMissed_12 rfl rfl ?_
        refine V_aload_n (pc := 13) (i := 0) dX11_supposeEachMissed_13 rfl rfl ?_
        refine VW_getWs (pc := 14) dX11_supposeEachMissed_14 fX11_68 (by first | assumption | rfl) rfl (by first | assumption | (simp (disch := omega) only [up2_row, up2_col, up2_same, upR_row]; assumption)) ?_
        refine VW_getR (pc := 17) dX11_supposeEachMissed_17 fX11_123 (by first | assumption | rfl) rfl ?_
        refine V_aload_n (pc := 20) (i := 0) dX11_supposeEachMissed_20 rfl rfl ?_
        refine VW_getR (pc := 21) dX11_supposeEachMissed_21 fX11_19 (by first | assumption | rfl) rfl ?_
        refine VW_getR (pc := 24) dX11_supposeEachMissed_24 fX11_191 (by first | assumption | rfl) rfl ?_
        refine V_iload_n (pc := 27) (i := 1) dX11_supposeEachMissed_27 rfl rfl ?_
        refine VW_ialdN (pc := 28) dX11_supposeEachMissed_28 (by first | assumption | rfl) rfl (by omega) (by first | decide | omega) ?_
        refine V_iconst (pc := 29) (v := 1) dX11_supposeEachMissed_29 (by decide) ?_
        refine V_iload_n (pc := 30) (i := 2) dX11_supposeEachMissed_30 rfl rfl ?_
        refine V_ishl (pc := 31) dX11_supposeEachMissed_31 ?_
        refine V_ior (pc := 32) dX11_supposeEachMissed_32 ?_
        refine V_aload_n (pc := 33) (i := 0) dX11_supposeEachMissed_33 rfl rfl ?_
        refine VW_getR (pc := 34) dX11_supposeEachMissed_34 fX11_19 (by first | assumption | rfl) rfl ?_
        refine VW_getI (pc := 37) dX11_supposeEachMissed_37 fX11_139 (by first | assumption | rfl) rfl ?_
        refine V_V2i (pc := 40) dX11_supposeEachMissed_40 cX11_262 (by first | assumption | rfl) (X1_allFrom (d := 2) a2 hn2 h12 (by omega) _ _) (Nat.le_of_ble_eq_true rfl) (by omega) (Nat.le_of_ble_eq_true rfl) ?_
        rw [e1]
        refine VW_iastN (pc := 43) dX11_supposeEachMissed_43 (by first | assumption | rfl) (by assumption) rfl (by omega) (by first | decide | omega) ?_
        rw [up2_upR]
        refine V_iinc (pc := 44) dX11_supposeEachMissed_44 (by decide) rfl rfl (iincN (n := 1) (by decide)) ?_
        refine V_goto (pc := 47) 2 dX11_supposeEachMissed_47 rfl ?_
        exact ih (i + 1) _ (by omega)
  rw [e0]
  exact loop 10 0 _ rfl
theorem X11_thatAgree {s n pp r bb : Nat} (ci : RI S s n pp r bb) {q ns : Nat} {A : Nat → Int32} (hA : ∀ i, i < 10 → S 43 i = A i) (hz : S 24 3 = nI ns) (h8s : ns ≤ 8) (hb : gB G ≤ b) (hd : 2 ≤ d) : VM G mX11_thatAgree d 0 0 [.ref (b + 0), .int (nI q)] (xE (some (.int (colB (fun i => agr (S 25) (S 26) (S 24 2) (nI q) (A i) ns 0) 10 0 0))) (wH G b tbC (S) h0)) (wH G b tbC S h0) := by
  obtain ⟨hsh, hn, h12, hg, hp, h8, hr, h7, hbb, hb8⟩ := id ci
  have hs := shC_or (S 0 9)
  have hS := tbC_shore (S 0 9)
  rw [hsh] at hs hS
  obtain ⟨a0, a1, a2, a3, a4, a5, a6, a7⟩ := id hS
  obtain ⟨i0, i1, i2, i3⟩ := id a2
  obtain ⟨r0, r1, r2⟩ := id a3
  refine VM_start (ls := [some (.ref (b + 0)), some (.int (nI q)), none, none]) rfl ?_
  -- %m X11_thatAgree
  refine V_iconst (pc := 0) (v := 0) dX11_thatAgree_0 (by decide) ?_
  refine V_istore_n (pc := 1) (i := 2) dX11_thatAgree_1 rfl (by decide) rfl ?_
  refine V_iconst (pc := 2) (v := 0) dX11_thatAgree_2 (by decide) ?_
  refine V_istore_n (pc := 3) (i := 3) dX11_thatAgree_3 rfl (by decide) rfl ?_
  have loop : ∀ (m i : Nat) (x : Int32), m + i = 10 → V G mX11_thatAgree d 0 0 (xE (some (.int (colB (fun i => agr (S 25) (S 26) (S 24 2) (nI q) (A i) ns 0) m i x))) (wH G b tbC (S) h0)) 4 [some (.ref (b + 0)), some (.int (nI q)), some (.int x), some (.int (nI i))] [] (wH G b tbC (S) h0) := by
    intro m
    induction m with
    | zero =>
      intro i x hm
      refine V_iload_n (pc := 4) (i := 3) dX11_thatAgree_4 rfl rfl ?_
      refine V_bipush (pc := 5) (v := 10) dX11_thatAgree_5 (by decide) ?_
      refine V_icmp_ge (pc := 7) 39 dX11_thatAgree_7 rfl (fun c7 => ?_) (fun c7 => ?_)
      · refine V_iload_n (pc := 39) (i := 2) dX11_thatAgree_39 rfl rfl ?_
        exact VE_iret (pc := 40) dX11_thatAgree_40 rfl rfl rfl
      · exact absurd (by rw [show i = 10 by omega]; decide) c7
    | succ m ih =>
      intro i x hm
      rw [colB]
      refine V_iload_n (pc := 4) (i := 3) dX11_thatAgree_4 rfl rfl ?_
      refine V_bipush (pc := 5) (v := 10) dX11_thatAgree_5 (by decide) ?_
      refine V_icmp_ge (pc := 7) 39 dX11_thatAgree_7 rfl (fun c7 => ?_) (fun c7 => ?_)
      · exact absurd c7 (nI_ge (b := 10) (by omega) (by decide))
      · refine V_aload_n (pc := 10) (i := 0) dX11_thatAgree_10 rfl rfl ?_
        refine VW_getR (pc := 11) dX11_thatAgree_11 fX11_33 (by first | assumption | rfl) rfl ?_
        refine V_iload_n (pc := 14) (i := 1) dX11_thatAgree_14 rfl rfl ?_
        refine V_aload_n (pc := 15) (i := 0) dX11_thatAgree_15 rfl rfl ?_
        refine VW_getR (pc := 16) dX11_thatAgree_16 fX11_55 (by first | assumption | rfl) rfl ?_
        refine V_iload_n (pc := 19) (i := 3) dX11_thatAgree_19 rfl rfl ?_
        refine VW_ialdN (pc := 20) dX11_thatAgree_20 (by first | assumption | rfl) rfl (by omega) (by first | decide | omega) ?_
        rw [hA i (by omega)]
        refine V_V2i (pc := 21) dX11_thatAgree_21 cX11_307 (by first | assumption | rfl) (X5_agrees (d := 1) tbC_24 hz h8s (by omega) _ _) (Nat.le_of_ble_eq_true rfl) (by omega) (Nat.le_of_ble_eq_true rfl) ?_
        refine V_if_eq (pc := 24) 33 dX11_thatAgree_24 rfl (fun c24 => ?_) (fun c24 => ?_)
        · rw [if_neg (by rw [b2i_0.mp c24]; decide)]
          refine V_iinc (pc := 33) dX11_thatAgree_33 (by decide) rfl rfl (iincN (n := 1) (by decide)) ?_
          refine V_goto (pc := 36) 4 dX11_thatAgree_36 rfl ?_
          exact ih (i + 1) _ (by omega)
        · rw [if_pos (b2i_n0.mp c24)]
          refine V_iload_n (pc := 27) (i := 2) dX11_thatAgree_27 rfl rfl ?_
          refine V_iconst (pc := 28) (v := 1) dX11_thatAgree_28 (by decide) ?_
          refine V_iload_n (pc := 29) (i := 3) dX11_thatAgree_29 rfl rfl ?_
          refine V_ishl (pc := 30) dX11_thatAgree_30 ?_
          refine V_ior (pc := 31) dX11_thatAgree_31 ?_
          refine V_istore_n (pc := 32) (i := 2) dX11_thatAgree_32 rfl (by decide) rfl ?_
          refine V_iinc (pc := 33) dX11_thatAgree_33 (by decide) rfl rfl (iincN (n := 1) (by decide)) ?_
          refine V_goto (pc := 36) 4 dX11_thatAgree_36 rfl ?_
          exact ih (i + 1) _ (by omega)
  exact loop 10 0 _ rfl
theorem X11_howManyWith {s n pp r bb : Nat} (ci : RI S s n pp r bb) {t : Nat} {A : Nat → Int32} (hA : ∀ i, i < 10 → S 43 i = A i) (x9 : Int32) (hb : gB G ≤ b) (hd : 1 ≤ d) : VM G mX11_howManyWith d 0 0 [.ref (b + 0), .int (nI t), .int x9] (xE (some (.int (cntP (fun i => hasB x9 (nI i) && hasB (A i) (nI t)) 10 0 0))) (wH G b tbC (S) h0)) (wH G b tbC S h0) := by
  obtain ⟨hsh, hn, h12, hg, hp, h8, hr, h7, hbb, hb8⟩ := id ci
  have hs := shC_or (S 0 9)
  have hS := tbC_shore (S 0 9)
  rw [hsh] at hs hS
  obtain ⟨a0, a1, a2, a3, a4, a5, a6, a7⟩ := id hS
  obtain ⟨i0, i1, i2, i3⟩ := id a2
  obtain ⟨r0, r1, r2⟩ := id a3
  refine VM_start (ls := [some (.ref (b + 0)), some (.int (nI t)), some (.int x9), none, none]) rfl ?_
  -- %m X11_howManyWith
  refine V_iconst (pc := 0) (v := 0) dX11_howManyWith_0 (by decide) ?_
  refine V_istore_n (pc := 1) (i := 3) dX11_howManyWith_1 rfl (by decide) rfl ?_
  refine V_iconst (pc := 2) (v := 0) dX11_howManyWith_2 (by decide) ?_
  refine V_istore (pc := 3) dX11_howManyWith_3 (by decide) rfl ?_
  have loop : ∀ (m i : Nat) (x : Int32), m + i = 10 → V G mX11_howManyWith d 0 0 (xE (some (.int (cntP (fun i => hasB x9 (nI i) && hasB (A i) (nI t)) m i x))) (wH G b tbC (S) h0)) 5 [some (.ref (b + 0)), some (.int (nI t)), some (.int x9), some (.int x), some (.int (nI i))] [] (wH G b tbC (S) h0) := by
    intro m
    induction m with
    | zero =>
      intro i x hm
      refine V_iload (pc := 5) dX11_howManyWith_5 rfl ?_
      refine V_bipush (pc := 7) (v := 10) dX11_howManyWith_7 (by decide) ?_
      refine V_icmp_ge (pc := 9) 44 dX11_howManyWith_9 rfl (fun c9 => ?_) (fun c9 => ?_)
      · refine V_iload_n (pc := 44) (i := 3) dX11_howManyWith_44 rfl rfl ?_
        exact VE_iret (pc := 45) dX11_howManyWith_45 rfl rfl rfl
      · exact absurd (by rw [show i = 10 by omega]; decide) c9
    | succ m ih =>
      intro i x hm
      rw [cntP]
      refine V_iload (pc := 5) dX11_howManyWith_5 rfl ?_
      refine V_bipush (pc := 7) (v := 10) dX11_howManyWith_7 (by decide) ?_
      refine V_icmp_ge (pc := 9) 44 dX11_howManyWith_9 rfl (fun c9 => ?_) (fun c9 => ?_)
      · exact absurd c9 (nI_ge (b := 10) (by omega) (by decide))
      · refine V_iload (pc := 12) dX11_howManyWith_12 rfl ?_
        refine V_iload_n (pc := 14) (i := 2) dX11_howManyWith_14 rfl rfl ?_
        refine V_S2i (pc := 15) dX11_howManyWith_15 cX11_182 (X11_isIn (d := 0) _ _) (Nat.le_of_ble_eq_true rfl) (by omega) (Nat.le_of_ble_eq_true rfl) ?_
        refine V_if_eq (pc := 18) 38 dX11_howManyWith_18 rfl (fun c18 => ?_) (fun c18 => ?_)
        · rw [if_neg (by simp [b2i_0.mp c18])]
          refine V_iinc (pc := 38) dX11_howManyWith_38 (by decide) rfl rfl (iincN (n := 1) (by decide)) ?_
          refine V_goto (pc := 41) 5 dX11_howManyWith_41 rfl ?_
          exact ih (i + 1) _ (by omega)
        · refine V_iload_n (pc := 21) (i := 1) dX11_howManyWith_21 rfl rfl ?_
          refine V_aload_n (pc := 22) (i := 0) dX11_howManyWith_22 rfl rfl ?_
          refine VW_getR (pc := 23) dX11_howManyWith_23 fX11_55 (by first | assumption | rfl) rfl ?_
          refine V_iload (pc := 26) dX11_howManyWith_26 rfl ?_
          refine VW_ialdN (pc := 28) dX11_howManyWith_28 (by first | assumption | rfl) rfl (by omega) (by first | decide | omega) ?_
          rw [hA i (by omega)]
          refine V_S2i (pc := 29) dX11_howManyWith_29 cX11_182 (X11_isIn (d := 0) _ _) (Nat.le_of_ble_eq_true rfl) (by omega) (Nat.le_of_ble_eq_true rfl) ?_
          refine V_if_eq (pc := 32) 38 dX11_howManyWith_32 rfl (fun c32 => ?_) (fun c32 => ?_)
          · rw [if_neg (by simp [b2i_0.mp c32])]
            refine V_iinc (pc := 38) dX11_howManyWith_38 (by decide) rfl rfl (iincN (n := 1) (by decide)) ?_
            refine V_goto (pc := 41) 5 dX11_howManyWith_41 rfl ?_
            exact ih (i + 1) _ (by omega)
          · rw [if_pos (by simp [b2i_n0.mp c18, b2i_n0.mp c32])]
            refine V_iinc (pc := 35) dX11_howManyWith_35 (by decide) rfl rfl (v := x + 1) rfl ?_
            refine V_iinc (pc := 38) dX11_howManyWith_38 (by decide) rfl rfl (iincN (n := 1) (by decide)) ?_
            refine V_goto (pc := 41) 5 dX11_howManyWith_41 rfl ?_
            exact ih (i + 1) _ (by omega)
  exact loop 10 0 _ rfl
theorem RI.up43 {s n pp r bb : Nat} {f : Nat → Int32} (ci : RI S s n pp r bb) (hs : s = 4 ∨ s = 44) : RI (upR S 43 f) s n pp r bb := by
  obtain ⟨hsh, hn, h12, hg, hp, h8, hr, h7, hbb, hb8⟩ := ci
  exact ⟨by rw [upR_row (by omega)]; exact hsh, by rw [upR_row (by omega)]; exact hn, h12, by rw [upR_row (by omega)]; exact hg, by rw [upR_row (by omega)]; exact hp, h8, by rw [upR_row (by omega)]; exact hr, h7, by rw [upR_row (by omega)]; exact hbb, hb8⟩
theorem X11_bestMissed {s n pp r bb : Nat} (ci : RI S s n pp r bb) {q : Nat} (hq : q < pp) (hb : gB G ≤ b) (hd : 4 ≤ d) : VM G mX11_bestMissed d 0 0 [.ref (b + 0), .int (nI q)] (xE (some (.int (nI (bmF (fun i => sumB (S (s + 1)) (supF S s n q i) 10 0 0) 9 1 0)))) (wH G b tbC (upR S 43 (layF (supF S s n q) 10 0 (S 43))) h0)) (wH G b tbC S h0) := by
  obtain ⟨hsh, hn, h12, hg, hp, h8, hr, h7, hbb, hb8⟩ := id ci
  have hs := shC_or (S 0 9)
  have hS := tbC_shore (S 0 9)
  rw [hsh] at hs hS
  obtain ⟨a0, a1, a2, a3, a4, a5, a6, a7⟩ := id hS
  obtain ⟨i0, i1, i2, i3⟩ := id a2
  obtain ⟨r0, r1, r2⟩ := id a3
  refine VM_start (ls := [some (.ref (b + 0)), some (.int (nI q)), none, none]) rfl ?_
  -- %m X11_bestMissed
  refine V_aload_n (pc := 0) (i := 0) dX11_bestMissed_0 rfl rfl ?_
  refine V_iload_n (pc := 1) (i := 1) dX11_bestMissed_1 rfl rfl ?_
  refine V_V1v (pc := 2) dX11_bestMissed_2 cX11_188 (by first | assumption | rfl) (X11_mustBePerson_ok (d := 0) hsh hp h8 hq) (Nat.le_of_ble_eq_true rfl) (by omega) (Nat.le_of_ble_eq_true rfl) ?_
  refine V_aload_n (pc := 5) (i := 0) dX11_bestMissed_5 rfl rfl ?_
  refine V_iload_n (pc := 6) (i := 1) dX11_bestMissed_6 rfl rfl ?_
  refine V_V1v (pc := 7) dX11_bestMissed_7 cX11_290 (by first | assumption | rfl) (X11_supposeEachMissed (d := 3) ci hq hb (by omega)) (Nat.le_of_ble_eq_true rfl) (by omega) (Nat.le_of_ble_eq_true rfl) ?_
  refine V_iconst (pc := 10) (v := 0) dX11_bestMissed_10 (by decide) ?_
  refine V_istore_n (pc := 11) (i := 2) dX11_bestMissed_11 rfl (by decide) rfl ?_
  refine V_iconst (pc := 12) (v := 1) dX11_bestMissed_12 (by decide) ?_
  refine V_istore_n (pc := 13) (i := 3) dX11_bestMissed_13 rfl (by decide) rfl ?_
  have hA : ∀ i, i < 10 → layF (supF S s n q) 10 0 (S 43) i = supF S s n q i := fun i hi => layF_in 10 0 _ i (by omega) (by omega)
  generalize layF (supF S s n q) 10 0 (S 43) = f at hA
  have hsh2 : shC (upR S 43 f 0 9) = s := by rw [upR_row (by omega)]; exact hsh
  have e1 : upR S 43 f (s + 1) = S (s + 1) := upR_row (by omega)
  have loop : ∀ (m i : Nat) (z : Nat), m + i = 10 → z < 10 → V G mX11_bestMissed d 0 0 (xE (some (.int (nI (bmF (fun i => sumB (S (s + 1)) (supF S s n q i) 10 0 0) m i z)))) (wH G b tbC (upR S 43 f) h0)) 14 [some (.ref (b + 0)), some (.int (nI q)), some (.int (nI z)), some (.int (nI i))] [] (wH G b tbC (upR S 43 f) h0) := by
    intro m
    induction m with
    | zero =>
      intro i z hm hz
      refine V_iload_n (pc := 14) (i := 3) dX11_bestMissed_14 rfl rfl ?_
      refine V_bipush (pc := 15) (v := 10) dX11_bestMissed_15 (by decide) ?_
      refine V_icmp_ge (pc := 17) 57 dX11_bestMissed_17 rfl (fun c17 => ?_) (fun c17 => ?_)
      · refine V_iload_n (pc := 57) (i := 2) dX11_bestMissed_57 rfl rfl ?_
        exact VE_iret (pc := 58) dX11_bestMissed_58 rfl rfl rfl
      · exact absurd (by rw [show i = 10 by omega]; decide) c17
    | succ m ih =>
      intro i z hm hz
      rw [bmF]
      refine V_iload_n (pc := 14) (i := 3) dX11_bestMissed_14 rfl rfl ?_
      refine V_bipush (pc := 15) (v := 10) dX11_bestMissed_15 (by decide) ?_
      refine V_icmp_ge (pc := 17) 57 dX11_bestMissed_17 rfl (fun c17 => ?_) (fun c17 => ?_)
      · exact absurd c17 (nI_ge (b := 10) (by omega) (by decide))
      · refine V_aload_n (pc := 20) (i := 0) dX11_bestMissed_20 rfl rfl ?_
        refine VW_getWs (pc := 21) dX11_bestMissed_21 fX11_68 (by first | assumption | rfl) rfl (by first | assumption | (simp (disch := omega) only [up2_row, up2_col, up2_same, upR_row]; assumption)) ?_
        refine V_aload_n (pc := 24) (i := 0) dX11_bestMissed_24 rfl rfl ?_
        refine VW_getR (pc := 25) dX11_bestMissed_25 fX11_55 (by first | assumption | rfl) rfl ?_
        refine V_iload_n (pc := 28) (i := 3) dX11_bestMissed_28 rfl rfl ?_
        refine VW_ialdN (pc := 29) dX11_bestMissed_29 (by first | assumption | rfl) rfl (by omega) (by first | decide | omega) ?_
        rw [upR_same, hA i (by omega)]
        refine V_V1i (pc := 30) dX11_bestMissed_30 cX11_287 (by first | assumption | rfl) (X7_worthOf (d := 1) hS (by omega) _) (Nat.le_of_ble_eq_true rfl) (by omega) (Nat.le_of_ble_eq_true rfl) ?_
        refine V_aload_n (pc := 33) (i := 0) dX11_bestMissed_33 rfl rfl ?_
        refine VW_getWs (pc := 34) dX11_bestMissed_34 fX11_68 (by first | assumption | rfl) rfl (by first | assumption | (simp (disch := omega) only [up2_row, up2_col, up2_same, upR_row]; assumption)) ?_
        refine V_aload_n (pc := 37) (i := 0) dX11_bestMissed_37 rfl rfl ?_
        refine VW_getR (pc := 38) dX11_bestMissed_38 fX11_55 (by first | assumption | rfl) rfl ?_
        refine V_iload_n (pc := 41) (i := 2) dX11_bestMissed_41 rfl rfl ?_
        refine VW_ialdN (pc := 42) dX11_bestMissed_42 (by first | assumption | rfl) rfl (by omega) (by first | decide | omega) ?_
        rw [upR_same, hA z (by omega)]
        refine V_V1i (pc := 43) dX11_bestMissed_43 cX11_287 (by first | assumption | rfl) (X7_worthOf (d := 1) hS (by omega) _) (Nat.le_of_ble_eq_true rfl) (by omega) (Nat.le_of_ble_eq_true rfl) ?_
        rw [e1]
        refine V_icmp_le (pc := 46) 51 dX11_bestMissed_46 rfl (fun c46 => ?_) (fun c46 => ?_)
        · rw [if_neg (Int32.not_lt.mpr c46)]
          refine V_iinc (pc := 51) dX11_bestMissed_51 (by decide) rfl rfl (iincN (n := 1) (by decide)) ?_
          refine V_goto (pc := 54) 14 dX11_bestMissed_54 rfl ?_
          exact ih (i + 1) _ (by omega) hz
        · rw [if_pos (Int32.not_le.mp c46)]
          refine V_iload_n (pc := 49) (i := 3) dX11_bestMissed_49 rfl rfl ?_
          refine V_istore_n (pc := 50) (i := 2) dX11_bestMissed_50 rfl (by decide) rfl ?_
          refine V_iinc (pc := 51) dX11_bestMissed_51 (by decide) rfl rfl (iincN (n := 1) (by decide)) ?_
          refine V_goto (pc := 54) 14 dX11_bestMissed_54 rfl ?_
          exact ih (i + 1) _ (by omega) (by omega)
  exact loop 9 1 0 rfl (by decide)
theorem X11_tells {s n pp r bb : Nat} (ci : RI S s n pp r bb) {q ns : Nat} (hq : q < pp) (hz : S 24 3 = nI ns) (h8s : ns ≤ 8) (hb : gB G ≤ b) (hd : 4 ≤ d) : VM G mX11_tells d 0 0 [.ref (b + 0), .int (nI q)] (xE (some (.int (colB (fun i => agr (S 25) (S 26) (S 24 2) (nI q) (supF S s n q i) ns 0) 10 0 0))) (wH G b tbC (upR S 43 (layF (supF S s n q) 10 0 (S 43))) h0)) (wH G b tbC S h0) := by
  obtain ⟨hsh, hn, h12, hg, hp, h8, hr, h7, hbb, hb8⟩ := id ci
  have hs := shC_or (S 0 9)
  have hS := tbC_shore (S 0 9)
  rw [hsh] at hs hS
  obtain ⟨a0, a1, a2, a3, a4, a5, a6, a7⟩ := id hS
  obtain ⟨i0, i1, i2, i3⟩ := id a2
  obtain ⟨r0, r1, r2⟩ := id a3
  refine VM_start (ls := [some (.ref (b + 0)), some (.int (nI q))]) rfl ?_
  -- %m X11_tells
  have hA : ∀ i, i < 10 → upR S 43 (layF (supF S s n q) 10 0 (S 43)) 43 i = supF S s n q i := fun i hi => by rw [upR_same]; exact layF_in 10 0 _ i (by omega) (by omega)
  refine V_aload_n (pc := 0) (i := 0) dX11_tells_0 rfl rfl ?_
  refine V_iload_n (pc := 1) (i := 1) dX11_tells_1 rfl rfl ?_
  refine V_V1v (pc := 2) dX11_tells_2 cX11_188 (by first | assumption | rfl) (X11_mustBePerson_ok (d := 0) hsh hp h8 hq) (Nat.le_of_ble_eq_true rfl) (by omega) (Nat.le_of_ble_eq_true rfl) ?_
  refine V_aload_n (pc := 5) (i := 0) dX11_tells_5 rfl rfl ?_
  refine V_iload_n (pc := 6) (i := 1) dX11_tells_6 rfl rfl ?_
  refine V_V1v (pc := 7) dX11_tells_7 cX11_290 (by first | assumption | rfl) (X11_supposeEachMissed (d := 3) ci hq hb (by omega)) (Nat.le_of_ble_eq_true rfl) (by omega) (Nat.le_of_ble_eq_true rfl) ?_
  refine V_aload_n (pc := 10) (i := 0) dX11_tells_10 rfl rfl ?_
  refine V_iload_n (pc := 11) (i := 1) dX11_tells_11 rfl rfl ?_
  refine V_V1i (pc := 12) dX11_tells_12 cX11_296 (by first | assumption | rfl) (X11_thatAgree (ns := ns) (d := 2) (ci.up43 hs) hA (by rw [upR_row (by decide)]; exact hz) h8s hb (by omega)) (Nat.le_of_ble_eq_true rfl) (by omega) (Nat.le_of_ble_eq_true rfl) ?_
  rw [upR_row (by decide), upR_row (by decide), upR_row (by decide)]
  exact VE_iret (pc := 15) dX11_tells_15 rfl rfl rfl
theorem X11_look {s n pp r bb : Nat} (ci : RI S s n pp r bb) {q v ns : Nat} (hq : q < pp) (hv : v ≤ 1) (hz : S 24 3 = nI ns) (h8s : ns ≤ 8) {x9 : Int32} (hx : x9 = colB (fun i => agr (S 25) (S 26) (S 24 2) (nI q) (supF S s n q i) ns 0) 10 0 0) (hb : gB G ≤ b) (hd : 4 ≤ d) : VM G mX11_look d 0 0 [.ref (b + 0), .int (nI q), .int (nI v)] (xE (some (.int (if x9 = 0 then (if nI v = 0 then -1 else 0) else if nI v = 0 then (lokF (lokW (supF S s n q) x9) 10 0 0 (-1)).1 else (lokF (lokW (supF S s n q) x9) 10 0 0 (-1)).2))) (wH G b tbC (upR S 43 (layF (supF S s n q) 10 0 (S 43))) h0)) (wH G b tbC S h0) := by
  obtain ⟨hsh, hn, h12, hg, hp, h8, hr, h7, hbb, hb8⟩ := id ci
  have hs := shC_or (S 0 9)
  have hS := tbC_shore (S 0 9)
  rw [hsh] at hs hS
  obtain ⟨a0, a1, a2, a3, a4, a5, a6, a7⟩ := id hS
  obtain ⟨i0, i1, i2, i3⟩ := id a2
  obtain ⟨r0, r1, r2⟩ := id a3
  refine VM_start (ls := [some (.ref (b + 0)), some (.int (nI q)), some (.int (nI v)), none, none, none, none, none, none]) rfl ?_
  -- %m X11_look
  have hA : ∀ i, i < 10 → upR S 43 (layF (supF S s n q) 10 0 (S 43)) 43 i = supF S s n q i := fun i hi => by rw [upR_same]; exact layF_in 10 0 _ i (by omega) (by omega)
  refine V_aload_n (pc := 0) (i := 0) dX11_look_0 rfl rfl ?_
  refine V_iload_n (pc := 1) (i := 1) dX11_look_1 rfl rfl ?_
  refine V_V1v (pc := 2) dX11_look_2 cX11_188 (by first | assumption | rfl) (X11_mustBePerson_ok (d := 0) hsh hp h8 hq) (Nat.le_of_ble_eq_true rfl) (by omega) (Nat.le_of_ble_eq_true rfl) ?_
  refine V_iload_n (pc := 5) (i := 2) dX11_look_5 rfl rfl ?_
  refine V_iconst (pc := 6) (v := 1) dX11_look_6 (by decide) ?_
  refine V_S2v (pc := 7) dX11_look_7 cX11_247 (X11_mustBeWhat_ok (m := 1) (d := 0) hv (by decide)) (Nat.le_of_ble_eq_true rfl) (by omega) (Nat.le_of_ble_eq_true rfl) ?_
  refine V_aload_n (pc := 10) (i := 0) dX11_look_10 rfl rfl ?_
  refine V_iload_n (pc := 11) (i := 1) dX11_look_11 rfl rfl ?_
  refine V_V1v (pc := 12) dX11_look_12 cX11_290 (by first | assumption | rfl) (X11_supposeEachMissed (d := 3) ci hq hb (by omega)) (Nat.le_of_ble_eq_true rfl) (by omega) (Nat.le_of_ble_eq_true rfl) ?_
  refine V_aload_n (pc := 15) (i := 0) dX11_look_15 rfl rfl ?_
  refine V_iload_n (pc := 16) (i := 1) dX11_look_16 rfl rfl ?_
  refine V_V1i (pc := 17) dX11_look_17 cX11_296 (by first | assumption | rfl) (X11_thatAgree (ns := ns) (d := 2) (ci.up43 hs) hA (by rw [upR_row (by decide)]; exact hz) h8s hb (by omega)) (Nat.le_of_ble_eq_true rfl) (by omega) (Nat.le_of_ble_eq_true rfl) ?_
  rw [upR_row (by decide), upR_row (by decide), upR_row (by decide), ← hx]
  generalize layF (supF S s n q) 10 0 (S 43) = f at hA
  refine V_istore_n (pc := 20) (i := 3) dX11_look_20 rfl (by decide) rfl ?_
  refine V_iload_n (pc := 21) (i := 3) dX11_look_21 rfl rfl ?_
  refine V_if_ne (pc := 22) 35 dX11_look_22 rfl (fun c22 => ?_) (fun c22 => ?_)
  · rw [if_neg c22]
    refine V_iconst (pc := 35) (v := 0) dX11_look_35 (by decide) ?_
    refine V_istore (pc := 36) dX11_look_36 (by decide) rfl ?_
    refine V_iconst (pc := 38) (v := -1) dX11_look_38 (by decide) ?_
    refine V_istore (pc := 39) dX11_look_39 (by decide) rfl ?_
    refine V_iconst (pc := 41) (v := 0) dX11_look_41 (by decide) ?_
    refine V_istore (pc := 42) dX11_look_42 (by decide) rfl ?_
    have loop : ∀ (m i : Nat) (z : Int32) (y : Int32), m + i = 10 → V G mX11_look d 0 0 (xE (some (.int (if nI v = 0 then (lokF (lokW (supF S s n q) x9) m i z y).1 else (lokF (lokW (supF S s n q) x9) m i z y).2))) (wH G b tbC (upR S 43 f) h0)) 44 [some (.ref (b + 0)), some (.int (nI q)), some (.int (nI v)), some (.int x9), some (.int z), some (.int y), some (.int (nI i)), none, none] [] (wH G b tbC (upR S 43 f) h0) := by
      intro m
      induction m with
      | zero =>
        intro i z y hm
        refine V_iload (pc := 44) dX11_look_44 rfl ?_
        refine V_bipush (pc := 46) (v := 10) dX11_look_46 (by decide) ?_
        refine V_icmp_ge (pc := 48) 95 dX11_look_48 rfl (fun c48 => ?_) (fun c48 => ?_)
        · refine V_iload_n (pc := 95) (i := 2) dX11_look_95 rfl rfl ?_
          refine V_if_ne (pc := 96) 104 dX11_look_96 rfl (fun c96 => ?_) (fun c96 => ?_)
          · refine V_iload (pc := 104) dX11_look_104 rfl ?_
            exact VE_iret (pc := 106) dX11_look_106 rfl (by first | (rw [if_pos c96]; rfl) | (rw [if_neg c96]; rfl)) rfl
          · refine V_iload (pc := 99) dX11_look_99 rfl ?_
            refine V_goto (pc := 101) 106 dX11_look_101 rfl ?_
            exact VE_iret (pc := 106) dX11_look_106 rfl (by first | (rw [if_pos c96]; rfl) | (rw [if_neg c96]; rfl)) rfl
        · exact absurd (by rw [show i = 10 by omega]; decide) c48
      | succ m ih =>
        intro i z y hm
        rw [lokF]
        refine V_iload (pc := 44) dX11_look_44 rfl ?_
        refine V_bipush (pc := 46) (v := 10) dX11_look_46 (by decide) ?_
        refine V_icmp_ge (pc := 48) 95 dX11_look_48 rfl (fun c48 => ?_) (fun c48 => ?_)
        · exact absurd c48 (nI_ge (b := 10) (by omega) (by decide))
        · refine V_aload_n (pc := 51) (i := 0) dX11_look_51 rfl rfl ?_
          refine V_iload (pc := 52) dX11_look_52 rfl ?_
          refine V_iload_n (pc := 54) (i := 3) dX11_look_54 rfl rfl ?_
          refine V_V2i (pc := 55) dX11_look_55 cX11_299 (by first | assumption | rfl) (X11_howManyWith (d := 1) (ci.up43 hs) hA _ hb (by omega)) (Nat.le_of_ble_eq_true rfl) (by omega) (Nat.le_of_ble_eq_true rfl) ?_
          refine V_istore (pc := 58) dX11_look_58 (by decide) rfl ?_
          refine V_iload (pc := 60) dX11_look_60 rfl ?_
          refine V_iload_n (pc := 62) (i := 3) dX11_look_62 rfl rfl ?_
          refine V_S1i (pc := 63) dX11_look_63 cX11_257 (J6_bitCount (d := 0) _) (Nat.le_of_ble_eq_true rfl) (by omega) (Nat.le_of_ble_eq_true rfl) ?_
          refine V_iload (pc := 66) dX11_look_66 rfl ?_
          refine V_isub (pc := 68) dX11_look_68 ?_
          refine V_min (pc := 69) dX11_look_69 cX11_302 w_minS w_mathI w_minC (by omega) (Nat.le_of_ble_eq_true rfl) ?_
          refine V_istore (pc := 72) dX11_look_72 (by decide) rfl ?_
          refine V_iload (pc := 74) dX11_look_74 rfl ?_
          refine V_iload (pc := 76) dX11_look_76 rfl ?_
          refine V_icmp_le (pc := 78) 89 dX11_look_78 rfl (fun c78 => ?_) (fun c78 => ?_)
          · rw [if_neg (show ¬ y < lokW (supF S s n q) x9 i from Int32.not_lt.mpr c78)]
            refine V_iinc (pc := 89) dX11_look_89 (by decide) rfl rfl (iincN (n := 1) (by decide)) ?_
            refine V_goto (pc := 92) 44 dX11_look_92 rfl ?_
            exact V_forget 7 (V_forget 8 (ih (i + 1) _ _ (by omega)))
          · rw [if_pos (show y < lokW (supF S s n q) x9 i from Int32.not_le.mp c78)]
            refine V_iload (pc := 81) dX11_look_81 rfl ?_
            refine V_istore (pc := 83) dX11_look_83 (by decide) rfl ?_
            refine V_iload (pc := 85) dX11_look_85 rfl ?_
            refine V_istore (pc := 87) dX11_look_87 (by decide) rfl ?_
            refine V_iinc (pc := 89) dX11_look_89 (by decide) rfl rfl (iincN (n := 1) (by decide)) ?_
            refine V_goto (pc := 92) 44 dX11_look_92 rfl ?_
            exact V_forget 7 (V_forget 8 (ih (i + 1) _ _ (by omega)))
    exact loop 10 0 _ _ rfl
  · rw [if_pos c22]
    refine V_iload_n (pc := 25) (i := 2) dX11_look_25 rfl rfl ?_
    refine V_if_ne (pc := 26) 33 dX11_look_26 rfl (fun c26 => ?_) (fun c26 => ?_)
    · refine V_iconst (pc := 33) (v := 0) dX11_look_33 (by decide) ?_
      exact VE_iret (pc := 34) dX11_look_34 rfl (by first | (rw [if_pos c26]) | (rw [if_neg c26])) rfl
    · refine V_iconst (pc := 29) (v := -1) dX11_look_29 (by decide) ?_
      refine V_goto (pc := 30) 34 dX11_look_30 rfl ?_
      exact VE_iret (pc := 34) dX11_look_34 rfl (by first | (rw [if_pos c26]) | (rw [if_neg c26])) rfl
end Face4
