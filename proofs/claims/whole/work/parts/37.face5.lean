/-! ===== the face: a game, years, the image ===== -/
section Face5
variable {G : xG} {d : Nat} {b : Nat} {S T : Nat → Nat → Int32} {h0 h : xH}
/-- what one gains -/
def gn (mi ot al sh : Int32) : Int32 := if mi = 0 then 1 else if ot = 0 then al else al / 2 + 2 * sh
theorem X11_gained (mi ot al sh : Int32) : VM G mX11_gained d 0 0 [.int mi, .int ot, .int al, .int sh] (xE (some (.int (gn mi ot al sh))) h) h := by
  refine VM_start (ls := [some (.int mi), some (.int ot), some (.int al), some (.int sh)]) rfl ?_
  unfold gn
  -- %m X11_gained
  refine V_iload_n (pc := 0) (i := 0) dX11_gained_0 rfl rfl ?_
  refine V_if_ne (pc := 1) 6 dX11_gained_1 rfl (fun c1 => ?_) (fun c1 => ?_)
  · rw [if_neg c1]
    refine V_iload_n (pc := 6) (i := 1) dX11_gained_6 rfl rfl ?_
    refine V_if_ne (pc := 7) 14 dX11_gained_7 rfl (fun c7 => ?_) (fun c7 => ?_)
    · rw [if_neg c7]
      refine V_iload_n (pc := 14) (i := 2) dX11_gained_14 rfl rfl ?_
      refine V_iconst (pc := 15) (v := 2) dX11_gained_15 (by decide) ?_
      refine V_idiv (pc := 16) dX11_gained_16 (by decide) ?_
      refine V_iconst (pc := 17) (v := 2) dX11_gained_17 (by decide) ?_
      refine V_iload_n (pc := 18) (i := 3) dX11_gained_18 rfl rfl ?_
      refine V_imul (pc := 19) dX11_gained_19 ?_
      refine V_iadd (pc := 20) dX11_gained_20 ?_
      exact VE_iret (pc := 21) dX11_gained_21 rfl rfl rfl
    · rw [if_pos c7]
      refine V_iload_n (pc := 10) (i := 2) dX11_gained_10 rfl rfl ?_
      refine V_goto (pc := 11) 21 dX11_gained_11 rfl ?_
      exact VE_iret (pc := 21) dX11_gained_21 rfl rfl rfl
  · rw [if_pos c1]
    refine V_iconst (pc := 4) (v := 1) dX11_gained_4 (by decide) ?_
    exact VE_iret (pc := 5) dX11_gained_5 rfl rfl rfl
/-- whether one is content -/
def cont (mi ot al sh : Int32) : Bool := decide (gn (1 - mi) ot al sh ≤ gn mi ot al sh)
theorem X11_isContent (mi ot al sh : Int32) (hd : 1 ≤ d) : VM G mX11_isContent d 0 0 [.int mi, .int ot, .int al, .int sh] (xE (some (.int (b2i (cont mi ot al sh)))) h) h := by
  refine VM_start (ls := [some (.int mi), some (.int ot), some (.int al), some (.int sh)]) rfl ?_
  -- %m X11_isContent
  refine V_iload_n (pc := 0) (i := 0) dX11_isContent_0 rfl rfl ?_
  refine V_iload_n (pc := 1) (i := 1) dX11_isContent_1 rfl rfl ?_
  refine V_iload_n (pc := 2) (i := 2) dX11_isContent_2 rfl rfl ?_
  refine V_iload_n (pc := 3) (i := 3) dX11_isContent_3 rfl rfl ?_
  refine V_S4i (pc := 4) dX11_isContent_4 cX11_324 (X11_gained (d := 0) _ _ _ _) (Nat.le_of_ble_eq_true rfl) (by omega) (Nat.le_of_ble_eq_true rfl) ?_
  refine V_iconst (pc := 7) (v := 1) dX11_isContent_7 (by decide) ?_
  refine V_iload_n (pc := 8) (i := 0) dX11_isContent_8 rfl rfl ?_
  refine V_isub (pc := 9) dX11_isContent_9 ?_
  refine V_iload_n (pc := 10) (i := 1) dX11_isContent_10 rfl rfl ?_
  refine V_iload_n (pc := 11) (i := 2) dX11_isContent_11 rfl rfl ?_
  refine V_iload_n (pc := 12) (i := 3) dX11_isContent_12 rfl rfl ?_
  refine V_S4i (pc := 13) dX11_isContent_13 cX11_324 (X11_gained (d := 0) _ _ _ _) (Nat.le_of_ble_eq_true rfl) (by omega) (Nat.le_of_ble_eq_true rfl) ?_
  refine V_icmp_lt (pc := 16) 23 dX11_isContent_16 rfl (fun c16 => ?_) (fun c16 => ?_)
  · have c17 : ¬ gn (1 - mi) ot al sh ≤ gn mi ot al sh := Int32.not_le.mpr c16
    refine V_iconst (pc := 23) (v := 0) dX11_isContent_23 (by decide) ?_
    exact VE_zret (pc := 24) dX11_isContent_24 rfl (by first | exact Or.inl rfl | exact Or.inr rfl) (by simp [b2i, cont, c17]) rfl
  · have c17 : gn (1 - mi) ot al sh ≤ gn mi ot al sh := Int32.not_lt.mp c16
    refine V_iconst (pc := 19) (v := 1) dX11_isContent_19 (by decide) ?_
    refine V_goto (pc := 20) 24 dX11_isContent_20 rfl ?_
    exact VE_zret (pc := 24) dX11_isContent_24 rfl (by first | exact Or.inl rfl | exact Or.inr rfl) (by simp [b2i, cont, c17]) rfl
/-- couples by which both are content: m from i on -/
def gamF (C : Nat → Bool) : Nat → Nat → Int32 → Int32 → Int32 × Int32
  | 0, _, x, y => (x, y)
  | m + 1, i, x, y => if C i then gamF C m (i + 1) (x + 1) (if y = -1 then 10 * (nI i >>> ((1 : Int32) &&& 31)) + (nI i &&& 1) else y) else gamF C m (i + 1) x y
/-- whether both are content by the couple i, of q and o; T is the walk's -/
def gamC (T : Nat → Nat → Int32) (q o i : Nat) : Bool := cont (nI i >>> ((1 : Int32) &&& 31)) (nI i &&& 1) (T 65 q - T 64 q) (bcI (T 63 q &&& T 63 o)) && cont (nI i &&& 1) (nI i >>> ((1 : Int32) &&& 31)) (T 65 o - T 64 o) (bcI (T 63 q &&& T 63 o))
/-- the next draw's seed; what it draws -/
def lcg (x : Int32) : Int32 := x * 1103515245 + 12345
def drw (x : Int32) : Nat := (ushr x 16).toBitVec.toNat % 2 ^ 15
/-- the sum of a row -/
def sumN (f : Nat → Int32) : Nat → Nat → Int32 → Int32
  | 0, _, x => x
  | m + 1, i, x => sumN f m (i + 1) (x + f i)
theorem X11_draw {N : Nat} (h1 : 1 ≤ N) (h2 : N < 100) (hb : gB G ≤ b) : VM G mX11_draw d 0 0 [.ref (b + 0), .int (nI N)] (xE (some (.int (nI (drw (lcg (S 0 11)) % N)))) (wH G b tbC (up2 S 0 11 (lcg (S 0 11))) h0)) (wH G b tbC S h0) := by
  refine VM_start (ls := [some (.ref (b + 0)), some (.int (nI N))]) rfl ?_
  have e : ushr (lcg (S 0 11)) 16 &&& 32767 = nI (drw (lcg (S 0 11))) := pk_and _ 15 (by decide)
  have hlt : drw (lcg (S 0 11)) < 2 ^ 15 := Nat.mod_lt _ (by decide)
  -- %m X11_draw
  refine V_aload_n (pc := 0) (i := 0) dX11_draw_0 rfl rfl ?_
  refine V_aload_n (pc := 1) (i := 0) dX11_draw_1 rfl rfl ?_
  refine VW_getI (pc := 2) dX11_draw_2 fX11_62 (by first | assumption | rfl) rfl ?_
  refine V_ldcw (pc := 5) dX11_draw_5 lX11_341 ?_
  refine V_imul (pc := 8) dX11_draw_8 ?_
  refine V_sipush (pc := 9) (v := 12345) dX11_draw_9 (by decide) ?_
  refine V_iadd (pc := 12) dX11_draw_12 ?_
  refine VW_putI (pc := 13) dX11_draw_13 fX11_62 ftX11 (fpI rfl rfl (tyX11_ok 11 (by decide))) (by first | assumption | rfl) rfl (by assumption) ?_
  refine V_iload_n (pc := 16) (i := 1) dX11_draw_16 rfl rfl ?_
  refine V_iconst (pc := 17) (v := 1) dX11_draw_17 (by decide) ?_
  refine V_icmp_ge (pc := 18) 25 dX11_draw_18 rfl (fun c18 => ?_) (fun c18 => ?_)
  · refine V_aload_n (pc := 25) (i := 0) dX11_draw_25 rfl rfl ?_
    show V G mX11_draw d 0 0 _ 26 _ _ (wH G b tbC (up2 S 0 11 (lcg (S 0 11))) h0)
    refine VW_getI (pc := 26) dX11_draw_26 fX11_62 (by first | assumption | rfl) rfl ?_
    rw [up2_same]
    refine V_bipush (pc := 29) (v := 16) dX11_draw_29 (by decide) ?_
    refine V_iushr (pc := 31) dX11_draw_31 rfl ?_
    refine V_sipush (pc := 32) (v := 32767) dX11_draw_32 (by decide) ?_
    refine V_iand (pc := 35) dX11_draw_35 ?_
    show V G mX11_draw d 0 0 _ 36 _ [.int (ushr (lcg (S 0 11)) 16 &&& 32767)] _
    rw [e]
    refine V_iload_n (pc := 36) (i := 1) dX11_draw_36 rfl rfl ?_
    refine V_irem (pc := 37) dX11_draw_37 (nI_ne0 (by omega) (by omega)) ?_
    rw [pk_rem (by omega) (by omega) (by omega)]
    exact VE_iret (pc := 38) dX11_draw_38 rfl rfl rfl
  · exact absurd (nI_le (a := 1) h1 (by omega)) c18
theorem X11_game_bad4 {s n pp r bb : Nat} (ci : RI S s n pp r bb) {q v : Nat} (hq : q < pp) (hv : v ≤ 1) (hb : gB G ≤ b) (hd : 6 ≤ d) : VM G mX11_game d 1 6 [.ref (b + 0), .int (nI q), .int (nI q), .int (nI v)] (xT IAE (wH G b tbC S h0)) (wH G b tbC S h0) := by
  obtain ⟨hsh, hn, h12, hg, hp, h8, hr, h7, hbb, hb8⟩ := id ci
  have hs := shC_or (S 0 9)
  have hS := tbC_shore (S 0 9)
  rw [hsh] at hs hS
  obtain ⟨a0, a1, a2, a3, a4, a5, a6, a7⟩ := id hS
  obtain ⟨i0, i1, i2, i3⟩ := id a2
  obtain ⟨r0, r1, r2⟩ := id a3
  refine VM_start (ls := [some (.ref (b + 0)), some (.int (nI q)), some (.int (nI q)), some (.int (nI v)), none, none, none, none, none, none]) rfl ?_
  -- %m X11_game
  refine V_aload_n (pc := 0) (i := 0) dX11_game_0 rfl rfl ?_
  refine V_iload_n (pc := 1) (i := 1) dX11_game_1 rfl rfl ?_
  refine V_V1v (pc := 2) dX11_game_2 cX11_188 (by first | assumption | rfl) (X11_mustBePerson_ok (d := 0) hsh hp h8 hq) (Nat.le_of_ble_eq_true rfl) (by omega) (Nat.le_of_ble_eq_true rfl) ?_
  refine V_aload_n (pc := 5) (i := 0) dX11_game_5 rfl rfl ?_
  refine V_iload_n (pc := 6) (i := 2) dX11_game_6 rfl rfl ?_
  refine V_V1v (pc := 7) dX11_game_7 cX11_188 (by first | assumption | rfl) (X11_mustBePerson_ok (d := 0) hsh hp h8 hq) (Nat.le_of_ble_eq_true rfl) (by omega) (Nat.le_of_ble_eq_true rfl) ?_
  refine V_iload_n (pc := 10) (i := 3) dX11_game_10 rfl rfl ?_
  refine V_iconst (pc := 11) (v := 1) dX11_game_11 (by decide) ?_
  refine V_S2v (pc := 12) dX11_game_12 cX11_247 (X11_mustBeWhat_ok (m := 1) (d := 0) hv (by decide)) (Nat.le_of_ble_eq_true rfl) (by omega) (Nat.le_of_ble_eq_true rfl) ?_
  refine V_iload_n (pc := 15) (i := 1) dX11_game_15 rfl rfl ?_
  refine V_iload_n (pc := 16) (i := 2) dX11_game_16 rfl rfl ?_
  refine V_icmp_ne (pc := 17) 31 dX11_game_17 rfl (fun c17 => absurd rfl c17) (fun c17 => ?_)
  exact V_throwW (pc := 20) th312 dX11_game_20 dX11_game_23 dX11_game_24 dX11_game_27 dX11_game_30 rfl (by omega) (Nat.le_of_ble_eq_true rfl) (fun h' e => ⟨rfl, e⟩)
theorem X11_game {s n pp r bb : Nat} (ci : RI S s n pp r bb) {q o v : Nat} (hq : q < pp) (ho : o < pp) (hv : v ≤ 1) (hne : q ≠ o) (hb : gB G ≤ b) (hd : 6 ≤ d) : VM G mX11_game d 0 0 [.ref (b + 0), .int (nI q), .int (nI o), .int (nI v)] (xE (some (.int (if nI v = 0 then (gamF (gamC (wkBegin S (S 0 9) n pp) q o) 4 0 0 (-1)).1 else (gamF (gamC (wkBegin S (S 0 9) n pp) q o) 4 0 0 (-1)).2))) (wH G b tbC (wkBegin S (S 0 9) n pp) h0)) (wH G b tbC S h0) := by
  obtain ⟨hsh, hn, h12, hg, hp, h8, hr, h7, hbb, hb8⟩ := id ci
  have hs := shC_or (S 0 9)
  have hS := tbC_shore (S 0 9)
  rw [hsh] at hs hS
  obtain ⟨a0, a1, a2, a3, a4, a5, a6, a7⟩ := id hS
  obtain ⟨i0, i1, i2, i3⟩ := id a2
  obtain ⟨r0, r1, r2⟩ := id a3
  refine VM_start (ls := [some (.ref (b + 0)), some (.int (nI q)), some (.int (nI o)), some (.int (nI v)), none, none, none, none, none, none]) rfl ?_
  -- %m X11_game
  refine V_aload_n (pc := 0) (i := 0) dX11_game_0 rfl rfl ?_
  refine V_iload_n (pc := 1) (i := 1) dX11_game_1 rfl rfl ?_
  refine V_V1v (pc := 2) dX11_game_2 cX11_188 (by first | assumption | rfl) (X11_mustBePerson_ok (d := 0) hsh hp h8 hq) (Nat.le_of_ble_eq_true rfl) (by omega) (Nat.le_of_ble_eq_true rfl) ?_
  refine V_aload_n (pc := 5) (i := 0) dX11_game_5 rfl rfl ?_
  refine V_iload_n (pc := 6) (i := 2) dX11_game_6 rfl rfl ?_
  refine V_V1v (pc := 7) dX11_game_7 cX11_188 (by first | assumption | rfl) (X11_mustBePerson_ok (d := 0) hsh hp h8 ho) (Nat.le_of_ble_eq_true rfl) (by omega) (Nat.le_of_ble_eq_true rfl) ?_
  refine V_iload_n (pc := 10) (i := 3) dX11_game_10 rfl rfl ?_
  refine V_iconst (pc := 11) (v := 1) dX11_game_11 (by decide) ?_
  refine V_S2v (pc := 12) dX11_game_12 cX11_247 (X11_mustBeWhat_ok (m := 1) (d := 0) hv (by decide)) (Nat.le_of_ble_eq_true rfl) (by omega) (Nat.le_of_ble_eq_true rfl) ?_
  refine V_iload_n (pc := 15) (i := 1) dX11_game_15 rfl rfl ?_
  refine V_iload_n (pc := 16) (i := 2) dX11_game_16 rfl rfl ?_
  refine V_icmp_ne (pc := 17) 31 dX11_game_17 rfl (fun c17 => ?_) (fun c17 => absurd ((nI_eq (by omega) (by omega)).mp c17) hne)
  refine V_aload_n (pc := 31) (i := 0) dX11_game_31 rfl rfl ?_
  refine VW_getR (pc := 32) dX11_game_32 fX11_77 (by first | assumption | rfl) rfl ?_
  refine V_aload_n (pc := 35) (i := 0) dX11_game_35 rfl rfl ?_
  refine VW_getWs (pc := 36) dX11_game_36 fX11_68 (by first | assumption | rfl) rfl (by first | assumption | (simp (disch := omega) only [up2_row, up2_col, up2_same, upR_row]; assumption)) ?_
  refine V_aload_n (pc := 39) (i := 0) dX11_game_39 rfl rfl ?_
  refine VW_getR (pc := 40) dX11_game_40 fX11_19 (by first | assumption | rfl) rfl ?_
  refine V_V2v (pc := 43) dX11_game_43 cX11_219 (by first | assumption | rfl) (X10_begin2 (d := 5) hsh hn h12 hp h8 hb (by omega)) (Nat.le_of_ble_eq_true rfl) (by omega) (Nat.le_of_ble_eq_true rfl) ?_
  generalize wkBegin S (S 0 9) n pp = T0
  refine V_aload_n (pc := 46) (i := 0) dX11_game_46 rfl rfl ?_
  refine VW_getR (pc := 47) dX11_game_47 fX11_77 (by first | assumption | rfl) rfl ?_
  refine VW_getR (pc := 50) dX11_game_50 fX11_315 (by first | assumption | rfl) rfl ?_
  refine V_iload_n (pc := 53) (i := 1) dX11_game_53 rfl rfl ?_
  refine VW_ialdN (pc := 54) dX11_game_54 (by first | assumption | rfl) rfl (by omega) (by first | decide | omega) ?_
  refine V_aload_n (pc := 55) (i := 0) dX11_game_55 rfl rfl ?_
  refine VW_getR (pc := 56) dX11_game_56 fX11_77 (by first | assumption | rfl) rfl ?_
  refine VW_getR (pc := 59) dX11_game_59 fX11_315 (by first | assumption | rfl) rfl ?_
  refine V_iload_n (pc := 62) (i := 2) dX11_game_62 rfl rfl ?_
  refine VW_ialdN (pc := 63) dX11_game_63 (by first | assumption | rfl) rfl (by omega) (by first | decide | omega) ?_
  refine V_iand (pc := 64) dX11_game_64 ?_
  refine V_S1i (pc := 65) dX11_game_65 cX11_257 (J6_bitCount (d := 0) _) (Nat.le_of_ble_eq_true rfl) (by omega) (Nat.le_of_ble_eq_true rfl) ?_
  refine V_istore (pc := 68) dX11_game_68 (by decide) rfl ?_
  refine V_iconst (pc := 70) (v := 0) dX11_game_70 (by decide) ?_
  refine V_istore (pc := 71) dX11_game_71 (by decide) rfl ?_
  refine V_iconst (pc := 73) (v := -1) dX11_game_73 (by decide) ?_
  refine V_istore (pc := 74) dX11_game_74 (by decide) rfl ?_
  refine V_iconst (pc := 76) (v := 0) dX11_game_76 (by decide) ?_
  refine V_istore (pc := 77) dX11_game_77 (by decide) rfl ?_
  have loop : ∀ (m i : Nat) (x : Int32) (y : Int32), m + i = 4 → V G mX11_game d 0 0 (xE (some (.int (if nI v = 0 then (gamF (gamC T0 q o) m i x y).1 else (gamF (gamC T0 q o) m i x y).2))) (wH G b tbC (T0) h0)) 79 [some (.ref (b + 0)), some (.int (nI q)), some (.int (nI o)), some (.int (nI v)), some (.int ((bcI (T0 63 q &&& T0 63 o)))), some (.int x), some (.int y), some (.int (nI i)), none, none] [] (wH G b tbC (T0) h0) := by
    intro m
    induction m with
    | zero =>
      intro i x y hm
      refine V_iload (pc := 79) dX11_game_79 rfl ?_
      refine V_iconst (pc := 81) (v := 4) dX11_game_81 (by decide) ?_
      refine V_icmp_ge (pc := 82) 167 dX11_game_82 rfl (fun c82 => ?_) (fun c82 => ?_)
      · refine V_iload_n (pc := 167) (i := 3) dX11_game_167 rfl rfl ?_
        refine V_if_ne (pc := 168) 176 dX11_game_168 rfl (fun c168 => ?_) (fun c168 => ?_)
        · refine V_iload (pc := 176) dX11_game_176 rfl ?_
          exact VE_iret (pc := 178) dX11_game_178 rfl (by first | (rw [if_pos c168]; rfl) | (rw [if_neg c168]; rfl)) rfl
        · refine V_iload (pc := 171) dX11_game_171 rfl ?_
          refine V_goto (pc := 173) 178 dX11_game_173 rfl ?_
          exact VE_iret (pc := 178) dX11_game_178 rfl (by first | (rw [if_pos c168]; rfl) | (rw [if_neg c168]; rfl)) rfl
      · exact absurd (by rw [show i = 4 by omega]; decide) c82
    | succ m ih =>
      intro i x y hm
      rw [gamF]
      refine V_iload (pc := 79) dX11_game_79 rfl ?_
      refine V_iconst (pc := 81) (v := 4) dX11_game_81 (by decide) ?_
      refine V_icmp_ge (pc := 82) 167 dX11_game_82 rfl (fun c82 => ?_) (fun c82 => ?_)
      · exact absurd c82 (nI_ge (b := 4) (by omega) (by decide))
      · refine V_iload (pc := 85) dX11_game_85 rfl ?_
        refine V_iconst (pc := 87) (v := 1) dX11_game_87 (by decide) ?_
        refine V_ishr (pc := 88) dX11_game_88 ?_
        refine V_istore (pc := 89) dX11_game_89 (by decide) rfl ?_
        refine V_iload (pc := 91) dX11_game_91 rfl ?_
        refine V_iconst (pc := 93) (v := 1) dX11_game_93 (by decide) ?_
        refine V_iand (pc := 94) dX11_game_94 ?_
        refine V_istore (pc := 95) dX11_game_95 (by decide) rfl ?_
        refine V_iload (pc := 97) dX11_game_97 rfl ?_
        refine V_iload (pc := 99) dX11_game_99 rfl ?_
        refine V_aload_n (pc := 101) (i := 0) dX11_game_101 rfl rfl ?_
        refine VW_getR (pc := 102) dX11_game_102 fX11_77 (by first | assumption | rfl) rfl ?_
        refine V_iload_n (pc := 105) (i := 1) dX11_game_105 rfl rfl ?_
        refine V_V1i (pc := 106) dX11_game_106 cX11_317 (by first | assumption | rfl) (X10_gainOf (d := 0) (by omega)) (Nat.le_of_ble_eq_true rfl) (by omega) (Nat.le_of_ble_eq_true rfl) ?_
        refine V_iload (pc := 109) dX11_game_109 rfl ?_
        refine V_S4i (pc := 111) dX11_game_111 cX11_320 (X11_isContent (d := 1) _ _ _ _ (by omega)) (Nat.le_of_ble_eq_true rfl) (by omega) (Nat.le_of_ble_eq_true rfl) ?_
        refine V_if_eq (pc := 114) 161 dX11_game_114 rfl (fun c114 => ?_) (fun c114 => ?_)
        · rw [if_neg (show ¬ gamC T0 q o i = true by simp only [gamC, b2i_0.mp c114, Bool.false_and]; decide)]
          refine V_iinc (pc := 161) dX11_game_161 (by decide) rfl rfl (iincN (n := 1) (by decide)) ?_
          refine V_goto (pc := 164) 79 dX11_game_164 rfl ?_
          exact V_forget 8 (V_forget 9 (ih (i + 1) _ _ (by omega)))
        · refine V_iload (pc := 117) dX11_game_117 rfl ?_
          refine V_iload (pc := 119) dX11_game_119 rfl ?_
          refine V_aload_n (pc := 121) (i := 0) dX11_game_121 rfl rfl ?_
          refine VW_getR (pc := 122) dX11_game_122 fX11_77 (by first | assumption | rfl) rfl ?_
          refine V_iload_n (pc := 125) (i := 2) dX11_game_125 rfl rfl ?_
          refine V_V1i (pc := 126) dX11_game_126 cX11_317 (by first | assumption | rfl) (X10_gainOf (d := 0) (by omega)) (Nat.le_of_ble_eq_true rfl) (by omega) (Nat.le_of_ble_eq_true rfl) ?_
          refine V_iload (pc := 129) dX11_game_129 rfl ?_
          refine V_S4i (pc := 131) dX11_game_131 cX11_320 (X11_isContent (d := 1) _ _ _ _ (by omega)) (Nat.le_of_ble_eq_true rfl) (by omega) (Nat.le_of_ble_eq_true rfl) ?_
          refine V_if_eq (pc := 134) 161 dX11_game_134 rfl (fun c134 => ?_) (fun c134 => ?_)
          · rw [if_neg (show ¬ gamC T0 q o i = true by simp only [gamC, b2i_0.mp c134, Bool.and_false]; decide)]
            refine V_iinc (pc := 161) dX11_game_161 (by decide) rfl rfl (iincN (n := 1) (by decide)) ?_
            refine V_goto (pc := 164) 79 dX11_game_164 rfl ?_
            exact V_forget 8 (V_forget 9 (ih (i + 1) _ _ (by omega)))
          · rw [if_pos (show gamC T0 q o i = true by simp only [gamC, b2i_n0.mp c114, b2i_n0.mp c134]; decide)]
            refine V_iinc (pc := 137) dX11_game_137 (by decide) rfl rfl (v := x + 1) rfl ?_
            refine V_iload (pc := 140) dX11_game_140 rfl ?_
            refine V_iconst (pc := 142) (v := -1) dX11_game_142 (by decide) ?_
            refine V_icmp_ne (pc := 143) 157 dX11_game_143 rfl (fun c143 => ?_) (fun c143 => ?_)
            · rw [if_neg c143]
              refine V_iload (pc := 157) dX11_game_157 rfl ?_
              refine V_istore (pc := 159) dX11_game_159 (by decide) rfl ?_
              refine V_iinc (pc := 161) dX11_game_161 (by decide) rfl rfl (iincN (n := 1) (by decide)) ?_
              refine V_goto (pc := 164) 79 dX11_game_164 rfl ?_
              exact V_forget 8 (V_forget 9 (ih (i + 1) _ _ (by omega)))
            · rw [if_pos c143]
              refine V_bipush (pc := 146) (v := 10) dX11_game_146 (by decide) ?_
              refine V_iload (pc := 148) dX11_game_148 rfl ?_
              refine V_imul (pc := 150) dX11_game_150 ?_
              refine V_iload (pc := 151) dX11_game_151 rfl ?_
              refine V_iadd (pc := 153) dX11_game_153 ?_
              refine V_goto (pc := 154) 159 dX11_game_154 rfl ?_
              refine V_istore (pc := 159) dX11_game_159 (by decide) rfl ?_
              refine V_iinc (pc := 161) dX11_game_161 (by decide) rfl rfl (iincN (n := 1) (by decide)) ?_
              refine V_goto (pc := 164) 79 dX11_game_164 rfl ?_
              exact V_forget 8 (V_forget 9 (ih (i + 1) _ _ (by omega)))
  exact loop 4 0 _ _ rfl
/-- what happens ahead of a SUNDAY by draws -/
def wkDraw (T : Nat → Nat → Int32) (s n pp : Nat) : Nat → Nat → Int32 :=
  if 2 < drw (lcg (T 0 11)) % 6 ∨ pp = 0 then up2 T 0 11 (lcg (T 0 11)) else
  let kd := nI (drw (lcg (T 0 11)) % 6)
  let q := drw (lcg (lcg (T 0 11))) % pp
  let x := nI (drw (lcg (lcg (lcg (T 0 11)))) % 10)
  let U := up2 (up2 (up2 T 0 11 (lcg (T 0 11))) 0 11 (lcg (lcg (T 0 11)))) 0 11 (lcg (lcg (lcg (T 0 11))))
  wkSettle (if kd = 0 then up2 U 59 q (U 59 q ||| 1 <<< (x &&& 31)) else if kd = 1 then up2 U 59 q (U 59 q &&& (1 <<< (x &&& 31) ^^^ -1)) else up2 U 60 q x) s n q
def YI (T : Nat → Nat → Int32) (s n pp r bb : Nat) : Prop := WI T s r pp bb ∧ shC (T 0 9) = s ∧ T (s + 2) 4 = nI n
theorem wkDraw_off {s n pp k : Nat} (h1 : k < 59 ∨ 66 < k) (h2 : k ≠ 0) : wkDraw T s n pp k = T k := by
  unfold wkDraw
  split
  · rw [up2_row h2]
  · show wkSettle _ _ _ _ k = _
    rw [wkSettle_off (by omega)]
    split
    · simp (disch := omega) only [up2_row]
    · split <;> simp (disch := omega) only [up2_row]
theorem wkDraw_0 {s n pp j : Nat} (hj : j ≠ 11) : wkDraw T s n pp 0 j = T 0 j := by
  unfold wkDraw
  split
  · rw [up2_col hj]
  · show wkSettle _ _ _ _ 0 j = _
    rw [wkSettle_off (by omega)]
    split
    · simp (disch := omega) only [up2_row, up2_col]
    · split <;> simp (disch := omega) only [up2_row, up2_col]
theorem wkDraw_YI {s n pp r bb : Nat} (hs : s = 4 ∨ s = 44) (w : YI T s n pp r bb) : YI (wkDraw T s n pp) s n pp r bb := by
  obtain ⟨⟨w1, w2, w3, w4⟩, w5, w6⟩ := w
  refine ⟨⟨?_, ?_, ?_, ?_⟩, ?_, ?_⟩
  · rw [wkDraw_off (by omega) (by omega)]; exact w1
  · rw [wkDraw_off (by omega) (by omega)]; exact w2
  · rw [wkDraw_off (by omega) (by omega)]; exact w3
  · rw [wkDraw_off (by omega) (by omega)]; exact w4
  · rw [wkDraw_0 (by omega)]; exact w5
  · rw [wkDraw_off (by omega) (by omega)]; exact w6
theorem wkStep_YI {s n pp r bb : Nat} (hs : s = 4 ∨ s = 44) (w : YI T s n pp r bb) : YI (wkStep T s r pp bb) s n pp r bb :=
  ⟨wkStep_WI hs w.1, by rw [wkStep_off (by omega) (by omega)]; exact w.2.1, by rw [wkStep_off (by omega) (by omega)]; exact w.2.2⟩
theorem X11_drawAhead {s n pp r bb : Nat} (hs : s = 4 ∨ s = 44) (w : YI T s n pp r bb) (h12 : n ≤ 12) (h8 : pp ≤ 8) (hb : gB G ≤ b) (hd : 6 ≤ d) : VM G mX11_drawAhead d 0 0 [.ref (b + 0)] (xE none (wH G b tbC (wkDraw T s n pp) h0)) (wH G b tbC T h0) := by
  obtain ⟨⟨w1, w2, w3, w4⟩, w5, w6⟩ := w
  have hS := tbC_shore (T 0 9)
  rw [w5] at hS
  obtain ⟨a0, -⟩ := id hS
  refine VM_start (ls := [some (.ref (b + 0)), none, none, none]) rfl ?_
  -- %m X11_drawAhead
  refine V_aload_n (pc := 0) (i := 0) dX11_drawAhead_0 rfl rfl ?_
  refine V_bipush (pc := 1) (v := 6) dX11_drawAhead_1 (by decide) ?_
  refine V_V1i (pc := 3) dX11_drawAhead_3 cX11_335 (by first | assumption | rfl) (X11_draw (N := 6) (d := 0) (by decide) (by decide) hb) (Nat.le_of_ble_eq_true rfl) (by omega) (Nat.le_of_ble_eq_true rfl) ?_
  have hk : drw (lcg (T 0 11)) % 6 < 6 := Nat.mod_lt _ (by decide)
  have f2 : up2 T 0 11 (lcg (T 0 11)) s 7 = nI pp := by rw [up2_row (by omega)]; exact w2
  have f5 : shC (up2 T 0 11 (lcg (T 0 11)) 0 9) = s := by rw [up2_col (by omega)]; exact w5
  refine V_istore_n (pc := 6) (i := 1) dX11_drawAhead_6 rfl (by decide) rfl ?_
  refine V_iload_n (pc := 7) (i := 1) dX11_drawAhead_7 rfl rfl ?_
  refine V_iconst (pc := 8) (v := 2) dX11_drawAhead_8 (by decide) ?_
  unfold wkDraw
  refine V_icmp_gt (pc := 9) 22 dX11_drawAhead_9 rfl (fun c9 => ?_) (fun c9 => ?_)
  · have q : 2 < drw (lcg (T 0 11)) % 6 := Nat.not_le.mp (fun q => nI_nlt (a := 2) q (by omega) c9)
    rw [if_pos (Or.inl q)]
    exact VE_vret (pc := 22) dX11_drawAhead_22 rfl rfl
  have q2 : ¬ 2 < drw (lcg (T 0 11)) % 6 := fun q => c9 (nI_lt (a := 2) q (by omega))
  refine V_aload_n (pc := 12) (i := 0) dX11_drawAhead_12 rfl rfl ?_
  refine VW_getWs (pc := 13) dX11_drawAhead_13 fX11_68 (by first | assumption | rfl) rfl (by first | assumption | (simp (disch := omega) only [up2_row, up2_col, up2_same, upR_row]; assumption)) ?_
  refine VW_getI (pc := 16) dX11_drawAhead_16 fX11_120 (by first | assumption | rfl) rfl ?_
  rw [f2]
  refine V_if_ne (pc := 19) 23 dX11_drawAhead_19 rfl (fun c19 => ?_) (fun c19 => ?_)
  · have hp0 : pp ≠ 0 := fun q => c19 (by rw [q]; rfl)
    rw [if_neg (fun q => q.elim q2 hp0)]
    refine V_aload_n (pc := 23) (i := 0) dX11_drawAhead_23 rfl rfl ?_
    refine V_aload_n (pc := 24) (i := 0) dX11_drawAhead_24 rfl rfl ?_
    refine VW_getWs (pc := 25) dX11_drawAhead_25 fX11_68 (by first | assumption | rfl) rfl (by first | assumption | (simp (disch := omega) only [up2_row, up2_col, up2_same, upR_row]; assumption)) ?_
    refine VW_getI (pc := 28) dX11_drawAhead_28 fX11_120 (by first | assumption | rfl) rfl ?_
    rw [f2]
    refine V_V1i (pc := 31) dX11_drawAhead_31 cX11_335 (by first | assumption | rfl) (X11_draw (N := pp) (d := 0) (by omega) (by omega) hb) (Nat.le_of_ble_eq_true rfl) (by omega) (Nat.le_of_ble_eq_true rfl) ?_
    refine V_istore_n (pc := 34) (i := 2) dX11_drawAhead_34 rfl (by decide) rfl ?_
    refine V_aload_n (pc := 35) (i := 0) dX11_drawAhead_35 rfl rfl ?_
    refine V_bipush (pc := 36) (v := 10) dX11_drawAhead_36 (by decide) ?_
    refine V_V1i (pc := 38) dX11_drawAhead_38 cX11_335 (by first | assumption | rfl) (X11_draw (N := 10) (d := 0) (by decide) (by decide) hb) (Nat.le_of_ble_eq_true rfl) (by omega) (Nat.le_of_ble_eq_true rfl) ?_
    refine V_istore_n (pc := 41) (i := 3) dX11_drawAhead_41 rfl (by decide) rfl ?_
    refine V_aload_n (pc := 42) (i := 0) dX11_drawAhead_42 rfl rfl ?_
    refine VW_getR (pc := 43) dX11_drawAhead_43 fX11_77 (by first | assumption | rfl) rfl ?_
    refine V_iload_n (pc := 46) (i := 1) dX11_drawAhead_46 rfl rfl ?_
    refine V_iload_n (pc := 47) (i := 2) dX11_drawAhead_47 rfl rfl ?_
    refine V_iload_n (pc := 48) (i := 3) dX11_drawAhead_48 rfl rfl ?_
    refine V_V3v (pc := 49) dX11_drawAhead_49 cX11_338 (by first | assumption | rfl) (X10_change (s := s) (n := n) (d := 5) _ (by simp (disch := omega) only [up2_row]; exact w1) (by simp (disch := omega) only [up2_row]; exact w6) h12 (by have := Nat.mod_lt (drw (lcg (up2 T 0 11 (lcg (T 0 11)) 0 11))) (Nat.pos_of_ne_zero hp0); omega) _ hb (by omega)) (Nat.le_of_ble_eq_true rfl) (by omega) (Nat.le_of_ble_eq_true rfl) ?_
    exact VE_vret (pc := 52) dX11_drawAhead_52 rfl (by simp only [up2_same])
  · have hp0 : pp = 0 := by
      refine Classical.byContradiction fun q => ?_
      exact nI_ne0 (Nat.pos_of_ne_zero q) (by omega) c19
    rw [if_pos (Or.inr hp0)]
    exact VE_vret (pc := 22) dX11_drawAhead_22 rfl rfl
theorem X11_totalOf_T {s n pp r bb k : Nat} (w : YI T s n pp r bb) (hk : tbC[k]? = some (.inl (0, 8))) (h8 : pp ≤ 8) : VM G mX11_totalOf d 0 0 [.ref (b + 0), .ref (b + k)] (xE (some (.int (sumN (T k) pp 0 0))) (wH G b tbC T h0)) (wH G b tbC T h0) := by
  obtain ⟨⟨w1, hp, w3, w4⟩, hsh, w6⟩ := w
  have hS := tbC_shore (T 0 9)
  rw [hsh] at hS
  obtain ⟨a0, -⟩ := id hS
  refine VM_start (ls := [some (.ref (b + 0)), some (.ref (b + k)), none, none]) rfl ?_
  -- %m X11_totalOf
  refine V_iconst (pc := 0) (v := 0) dX11_totalOf_0 (by decide) ?_
  refine V_istore_n (pc := 1) (i := 2) dX11_totalOf_1 rfl (by decide) rfl ?_
  refine V_iconst (pc := 2) (v := 0) dX11_totalOf_2 (by decide) ?_
  refine V_istore_n (pc := 3) (i := 3) dX11_totalOf_3 rfl (by decide) rfl ?_
  have loop : ∀ (m i : Nat) (x : Int32), m + i = pp → V G mX11_totalOf d 0 0 (xE (some (.int (sumN (T k) m i x))) (wH G b tbC (T) h0)) 4 [some (.ref (b + 0)), some (.ref (b + k)), some (.int x), some (.int (nI i))] [] (wH G b tbC (T) h0) := by
    intro m
    induction m with
    | zero =>
      intro i x hm
      refine V_iload_n (pc := 4) (i := 3) dX11_totalOf_4 rfl rfl ?_
      refine V_aload_n (pc := 5) (i := 0) dX11_totalOf_5 rfl rfl ?_
      refine VW_getWs (pc := 6) dX11_totalOf_6 fX11_68 (by first | assumption | rfl) rfl (by first | assumption | (simp (disch := omega) only [up2_row, up2_col, up2_same, upR_row]; assumption)) ?_
      refine VW_getI (pc := 9) dX11_totalOf_9 fX11_120 (by first | assumption | rfl) rfl ?_
      refine V_icmp_ge (pc := 12) 27 dX11_totalOf_12 rfl (fun c12 => ?_) (fun c12 => ?_)
      · refine V_iload_n (pc := 27) (i := 2) dX11_totalOf_27 rfl rfl ?_
        exact VE_iret (pc := 28) dX11_totalOf_28 rfl rfl rfl
      · exact absurd (by rw [hp, show i = pp by omega]; exact nI_le (by omega) (by omega)) c12
    | succ m ih =>
      intro i x hm
      rw [sumN]
      refine V_iload_n (pc := 4) (i := 3) dX11_totalOf_4 rfl rfl ?_
      refine V_aload_n (pc := 5) (i := 0) dX11_totalOf_5 rfl rfl ?_
      refine VW_getWs (pc := 6) dX11_totalOf_6 fX11_68 (by first | assumption | rfl) rfl (by first | assumption | (simp (disch := omega) only [up2_row, up2_col, up2_same, upR_row]; assumption)) ?_
      refine VW_getI (pc := 9) dX11_totalOf_9 fX11_120 (by first | assumption | rfl) rfl ?_
      refine V_icmp_ge (pc := 12) 27 dX11_totalOf_12 rfl (fun c12 => ?_) (fun c12 => ?_)
      · exact absurd c12 (by rw [hp]; exact nI_ge (by omega) (by omega))
      · refine V_iload_n (pc := 15) (i := 2) dX11_totalOf_15 rfl rfl ?_
        refine V_aload_n (pc := 16) (i := 1) dX11_totalOf_16 rfl rfl ?_
        refine V_iload_n (pc := 17) (i := 3) dX11_totalOf_17 rfl rfl ?_
        refine VW_ialdN (pc := 18) dX11_totalOf_18 (by first | assumption | rfl) rfl (by omega) (by first | decide | omega) ?_
        refine V_iadd (pc := 19) dX11_totalOf_19 ?_
        refine V_istore_n (pc := 20) (i := 2) dX11_totalOf_20 rfl (by decide) rfl ?_
        refine V_iinc (pc := 21) dX11_totalOf_21 (by decide) rfl rfl (iincN (n := 1) (by decide)) ?_
        refine V_goto (pc := 24) 4 dX11_totalOf_24 rfl ?_
        exact ih (i + 1) _ (by omega)
  exact loop pp 0 _ rfl
/-- years: m SUNDAYS, x crossings so far -/
def wkYr (s n pp r bb : Nat) : Nat → Int32 → (Nat → Nat → Int32) → Int32 × (Nat → Nat → Int32)
  | 0, x, T => (x, T)
  | m + 1, x, T => wkYr s n pp r bb m (x + bcI (wkStep (wkDraw T s n pp) s r pp bb 58 7)) (wkStep (wkDraw T s n pp) s r pp bb)
def yrR (R : Int32 × (Nat → Nat → Int32)) (pp v : Nat) : Int32 := if nI v = 0 then R.1 else if nI v = 1 then sumN (R.2 62) pp 0 0 else sumN (R.2 61) pp 0 0
theorem X11_years {s n pp r bb : Nat} (ci : RI S s n pp r bb) {k v : Nat} {x0 : Int32} (hk : k ≤ 60) (hv : v ≤ 2) (hb : gB G ≤ b) (hd : 7 ≤ d) : VM G mX11_years d 0 0 [.ref (b + 0), .int x0, .int (nI k), .int (nI v)] (xE (some (.int (yrR (wkYr s n pp r bb k 0 (up2 (wkBegin S (S 0 9) n pp) 0 11 x0)) pp v))) (wH G b tbC ((wkYr s n pp r bb k 0 (up2 (wkBegin S (S 0 9) n pp) 0 11 x0)).2) h0)) (wH G b tbC S h0) := by
  obtain ⟨hsh, hn, h12, hg, hp, h8, hr, h7, hbb, hb8⟩ := id ci
  have hs := shC_or (S 0 9)
  have hS := tbC_shore (S 0 9)
  rw [hsh] at hs hS
  obtain ⟨a0, a1, a2, a3, a4, a5, a6, a7⟩ := id hS
  obtain ⟨i0, i1, i2, i3⟩ := id a2
  obtain ⟨r0, r1, r2⟩ := id a3
  refine VM_start (ls := [some (.ref (b + 0)), some (.int x0), some (.int (nI k)), some (.int (nI v)), none, none]) rfl ?_
  -- %m X11_years
  have w0 := wkBegin_WI hs ci
  refine V_iload_n (pc := 0) (i := 3) dX11_years_0 rfl rfl ?_
  refine V_iconst (pc := 1) (v := 2) dX11_years_1 (by decide) ?_
  refine V_S2v (pc := 2) dX11_years_2 cX11_247 (X11_mustBeWhat_ok (m := 2) (d := 0) hv (by decide)) (Nat.le_of_ble_eq_true rfl) (by omega) (Nat.le_of_ble_eq_true rfl) ?_
  refine V_iload_n (pc := 5) (i := 2) dX11_years_5 rfl rfl ?_
  refine V_iconst (pc := 6) (v := 0) dX11_years_6 (by decide) ?_
  refine V_bipush (pc := 7) (v := 60) dX11_years_7 (by decide) ?_
  refine V_S3v (pc := 9) dX11_years_9 cX11_94 (within_ok (l := 0) (m := 60) (d := 0) (Nat.zero_le _) hk (by decide)) (Nat.le_of_ble_eq_true rfl) (by omega) (Nat.le_of_ble_eq_true rfl) ?_
  refine V_aload_n (pc := 12) (i := 0) dX11_years_12 rfl rfl ?_
  refine VW_getR (pc := 13) dX11_years_13 fX11_77 (by first | assumption | rfl) rfl ?_
  refine V_aload_n (pc := 16) (i := 0) dX11_years_16 rfl rfl ?_
  refine VW_getWs (pc := 17) dX11_years_17 fX11_68 (by first | assumption | rfl) rfl (by first | assumption | (simp (disch := omega) only [up2_row, up2_col, up2_same, upR_row]; assumption)) ?_
  refine V_aload_n (pc := 20) (i := 0) dX11_years_20 rfl rfl ?_
  refine VW_getR (pc := 21) dX11_years_21 fX11_19 (by first | assumption | rfl) rfl ?_
  refine V_V2v (pc := 24) dX11_years_24 cX11_219 (by first | assumption | rfl) (X10_begin2 (d := 5) hsh hn h12 hp h8 hb (by omega)) (Nat.le_of_ble_eq_true rfl) (by omega) (Nat.le_of_ble_eq_true rfl) ?_
  refine V_aload_n (pc := 27) (i := 0) dX11_years_27 rfl rfl ?_
  refine V_iload_n (pc := 28) (i := 1) dX11_years_28 rfl rfl ?_
  refine VW_putI (pc := 29) dX11_years_29 fX11_62 ftX11 (fpI rfl rfl (tyX11_ok 11 (by decide))) (by first | assumption | rfl) rfl (by assumption) ?_
  refine V_iconst (pc := 32) (v := 0) dX11_years_32 (by decide) ?_
  refine V_istore (pc := 33) dX11_years_33 (by decide) rfl ?_
  refine V_iconst (pc := 35) (v := 0) dX11_years_35 (by decide) ?_
  refine V_istore (pc := 36) dX11_years_36 (by decide) rfl ?_
  have y0 : YI (up2 (wkBegin S (S 0 9) n pp) 0 11 x0) s n pp r bb := ⟨⟨by rw [up2_row (by decide)]; exact w0.1, by rw [up2_row (by omega)]; exact w0.2.1, by rw [up2_row (by omega)]; exact w0.2.2.1, by rw [up2_row (by decide)]; exact w0.2.2.2⟩, by rw [up2_col (by decide), wkBegin_off (by decide)]; exact hsh, by rw [up2_row (by omega), wkBegin_off (by omega)]; exact hn⟩
  generalize up2 (wkBegin S (S 0 9) n pp) 0 11 x0 = T0 at y0
  have loop : ∀ (m i : Nat) (x : Int32) (T : Nat → Nat → Int32), m + i = k → YI T s n pp r bb → V G mX11_years d 0 0 (xE (some (.int (yrR (wkYr s n pp r bb m x T) pp v))) (wH G b tbC ((wkYr s n pp r bb m x T).2) h0)) 38 [some (.ref (b + 0)), some (.int x0), some (.int (nI k)), some (.int (nI v)), some (.int x), some (.int (nI i))] [] (wH G b tbC (T) h0) := by
    intro m
    induction m with
    | zero =>
      intro i x T hm w
      refine V_iload (pc := 38) dX11_years_38 rfl ?_
      refine V_iload_n (pc := 40) (i := 2) dX11_years_40 rfl rfl ?_
      refine V_icmp_ge (pc := 41) 79 dX11_years_41 rfl (fun c41 => ?_) (fun c41 => ?_)
      · refine V_iload_n (pc := 79) (i := 3) dX11_years_79 rfl rfl ?_
        refine V_if_ne (pc := 80) 86 dX11_years_80 rfl (fun c80 => ?_) (fun c80 => ?_)
        · rw [yrR, if_neg c80]
          refine V_aload_n (pc := 86) (i := 0) dX11_years_86 rfl rfl ?_
          refine V_iload_n (pc := 87) (i := 3) dX11_years_87 rfl rfl ?_
          refine V_iconst (pc := 88) (v := 1) dX11_years_88 (by decide) ?_
          refine V_icmp_ne (pc := 89) 105 dX11_years_89 rfl (fun c89 => ?_) (fun c89 => ?_)
          · rw [if_neg c89]
            refine V_aload_n (pc := 105) (i := 0) dX11_years_105 rfl rfl ?_
            refine VW_getR (pc := 106) dX11_years_106 fX11_77 (by first | assumption | rfl) rfl ?_
            refine VW_getR (pc := 109) dX11_years_109 fX11_237 (by first | assumption | rfl) rfl ?_
            refine VW_getR (pc := 112) dX11_years_112 fX11_200 (by first | assumption | rfl) rfl ?_
            first
              | (refine V_V1i (pc := 115) dX11_years_115 cX11_331 (by first | assumption | rfl) (X11_totalOf_T (k := 62) (d := 0) w rfl h8) (Nat.le_of_ble_eq_true rfl) (by omega) (Nat.le_of_ble_eq_true rfl) ?_
                 exact VE_iret (pc := 118) dX11_years_118 rfl rfl rfl)
              | (refine V_V1i (pc := 115) dX11_years_115 cX11_331 (by first | assumption | rfl) (X11_totalOf_T (k := 61) (d := 0) w rfl h8) (Nat.le_of_ble_eq_true rfl) (by omega) (Nat.le_of_ble_eq_true rfl) ?_
                 exact VE_iret (pc := 118) dX11_years_118 rfl rfl rfl)
          · rw [if_pos c89]
            refine V_aload_n (pc := 92) (i := 0) dX11_years_92 rfl rfl ?_
            refine VW_getR (pc := 93) dX11_years_93 fX11_77 (by first | assumption | rfl) rfl ?_
            refine VW_getR (pc := 96) dX11_years_96 fX11_237 (by first | assumption | rfl) rfl ?_
            refine VW_getR (pc := 99) dX11_years_99 fX11_203 (by first | assumption | rfl) rfl ?_
            refine V_goto (pc := 102) 115 dX11_years_102 rfl ?_
            first
              | (refine V_V1i (pc := 115) dX11_years_115 cX11_331 (by first | assumption | rfl) (X11_totalOf_T (k := 62) (d := 0) w rfl h8) (Nat.le_of_ble_eq_true rfl) (by omega) (Nat.le_of_ble_eq_true rfl) ?_
                 exact VE_iret (pc := 118) dX11_years_118 rfl rfl rfl)
              | (refine V_V1i (pc := 115) dX11_years_115 cX11_331 (by first | assumption | rfl) (X11_totalOf_T (k := 61) (d := 0) w rfl h8) (Nat.le_of_ble_eq_true rfl) (by omega) (Nat.le_of_ble_eq_true rfl) ?_
                 exact VE_iret (pc := 118) dX11_years_118 rfl rfl rfl)
        · rw [yrR, if_pos c80]
          refine V_iload (pc := 83) dX11_years_83 rfl ?_
          exact VE_iret (pc := 85) dX11_years_85 rfl rfl rfl
      · exact absurd (by rw [show i = k by omega]; exact nI_le (by omega) (by omega)) c41
    | succ m ih =>
      intro i x T hm w
      rw [wkYr]
      have y1 := wkDraw_YI hs w
      refine V_iload (pc := 38) dX11_years_38 rfl ?_
      refine V_iload_n (pc := 40) (i := 2) dX11_years_40 rfl rfl ?_
      refine V_icmp_ge (pc := 41) 79 dX11_years_41 rfl (fun c41 => ?_) (fun c41 => ?_)
      · exact absurd c41 (nI_ge (by omega) (by omega))
      · refine V_aload_n (pc := 44) (i := 0) dX11_years_44 rfl rfl ?_
        refine V_V0v (pc := 45) dX11_years_45 cX11_328 (by first | assumption | rfl) (X11_drawAhead (d := 6) hs w h12 h8 hb (by omega)) (Nat.le_of_ble_eq_true rfl) (by omega) (Nat.le_of_ble_eq_true rfl) ?_
        refine V_aload_n (pc := 48) (i := 0) dX11_years_48 rfl rfl ?_
        refine VW_getR (pc := 49) dX11_years_49 fX11_77 (by first | assumption | rfl) rfl ?_
        refine V_V0v (pc := 52) dX11_years_52 cX11_234 (by first | assumption | rfl) (X10_step (d := 4) y1.1.1 y1.1.2.1 h8 y1.1.2.2.1 h7 y1.1.2.2.2 hb8 hb (by omega)) (Nat.le_of_ble_eq_true rfl) (by omega) (Nat.le_of_ble_eq_true rfl) ?_
        refine V_iload (pc := 55) dX11_years_55 rfl ?_
        refine V_aload_n (pc := 57) (i := 0) dX11_years_57 rfl rfl ?_
        refine VW_getR (pc := 58) dX11_years_58 fX11_77 (by first | assumption | rfl) rfl ?_
        refine VW_getR (pc := 61) dX11_years_61 fX11_237 (by first | assumption | rfl) rfl ?_
        refine VW_getI (pc := 64) dX11_years_64 fX11_136 (by first | assumption | rfl) rfl ?_
        refine V_S1i (pc := 67) dX11_years_67 cX11_257 (J6_bitCount (d := 0) _) (Nat.le_of_ble_eq_true rfl) (by omega) (Nat.le_of_ble_eq_true rfl) ?_
        refine V_iadd (pc := 70) dX11_years_70 ?_
        refine V_istore (pc := 71) dX11_years_71 (by decide) rfl ?_
        refine V_iinc (pc := 73) dX11_years_73 (by decide) rfl rfl (iincN (n := 1) (by decide)) ?_
        refine V_goto (pc := 76) 38 dX11_years_76 rfl ?_
        exact ih (i + 1) _ _ (by omega) (wkStep_YI hs y1)
  exact loop k 0 _ T0 rfl y0
/-- the image is laid -/
def imgS (S : Nat → Nat → Int32) : Nat → Nat → Int32 := up2 (upR (seenCp (actCp (stCp S 29 17) 34 22) 36 24) 39 (va_cpy (S 27) (S 39) 0 0 3)) 28 4 1
theorem actCp_off {k o k' : Nat} (h : k' ≠ k) (h2 : k' ≠ k + 1) : actCp S k o k' = S k' := by
  simp (disch := omega) only [actCp, up2_row, upR_row]
theorem seenCp_off {k o k' : Nat} (h : k' < k ∨ k + 2 < k') : seenCp S k o k' = S k' := by
  simp (disch := omega) only [seenCp, up2_row, upR_row]
theorem X11_image {s n pp r bb : Nat} (ci : RI S s n pp r bb) (hb : gB G ≤ b) (hd : 2 ≤ d) : VM G mX11_image d 0 0 [.ref (b + 0)] (xE none (wH G b tbC (imgS S) h0)) (wH G b tbC S h0) := by
  obtain ⟨hsh, hn, h12, hg, hp, h8, hr, h7, hbb, hb8⟩ := id ci
  have hs := shC_or (S 0 9)
  have hS := tbC_shore (S 0 9)
  rw [hsh] at hs hS
  obtain ⟨a0, a1, a2, a3, a4, a5, a6, a7⟩ := id hS
  obtain ⟨i0, i1, i2, i3⟩ := id a2
  obtain ⟨r0, r1, r2⟩ := id a3
  refine VM_start (ls := [some (.ref (b + 0))]) rfl ?_
  -- %m X11_image
  unfold imgS
  refine V_aload_n (pc := 0) (i := 0) dX11_image_0 rfl rfl ?_
  refine VW_getR (pc := 1) dX11_image_1 fX11_44 (by first | assumption | rfl) rfl ?_
  refine VW_getR (pc := 4) dX11_image_4 fX11_342 (by first | assumption | rfl) rfl ?_
  refine V_aload_n (pc := 7) (i := 0) dX11_image_7 rfl rfl ?_
  refine VW_getR (pc := 8) dX11_image_8 fX11_19 (by first | assumption | rfl) rfl ?_
  refine V_V1v (pc := 11) dX11_image_11 cX11_240 (by first | assumption | rfl) (X8_copyFrom (d := 1) tbC_29 tbC_17 (by decide) hb (by omega)) (Nat.le_of_ble_eq_true rfl) (by omega) (Nat.le_of_ble_eq_true rfl) ?_
  refine V_aload_n (pc := 14) (i := 0) dX11_image_14 rfl rfl ?_
  refine VW_getR (pc := 15) dX11_image_15 fX11_44 (by first | assumption | rfl) rfl ?_
  refine VW_getR (pc := 18) dX11_image_18 fX11_343 (by first | assumption | rfl) rfl ?_
  refine V_aload_n (pc := 21) (i := 0) dX11_image_21 rfl rfl ?_
  refine VW_getR (pc := 22) dX11_image_22 fX11_26 (by first | assumption | rfl) rfl ?_
  refine V_V1v (pc := 25) dX11_image_25 cX11_344 (by first | assumption | rfl) (X0_copyFrom (d := 1) tbC_34 tbC_22 (by decide) hb (by omega)) (Nat.le_of_ble_eq_true rfl) (by omega) (Nat.le_of_ble_eq_true rfl) ?_
  refine V_aload_n (pc := 28) (i := 0) dX11_image_28 rfl rfl ?_
  refine VW_getR (pc := 29) dX11_image_29 fX11_44 (by first | assumption | rfl) rfl ?_
  refine VW_getR (pc := 32) dX11_image_32 fX11_347 (by first | assumption | rfl) rfl ?_
  refine V_aload_n (pc := 35) (i := 0) dX11_image_35 rfl rfl ?_
  refine VW_getR (pc := 36) dX11_image_36 fX11_33 (by first | assumption | rfl) rfl ?_
  refine V_V1v (pc := 39) dX11_image_39 cX11_348 (by first | assumption | rfl) (X5_copyFrom (d := 1) tbC_36 tbC_24 (by decide) hb (by omega)) (Nat.le_of_ble_eq_true rfl) (by omega) (Nat.le_of_ble_eq_true rfl) ?_
  refine V_aload_n (pc := 42) (i := 0) dX11_image_42 rfl rfl ?_
  refine VW_getR (pc := 43) dX11_image_43 fX11_37 (by first | assumption | rfl) rfl ?_
  refine V_iconst (pc := 46) (v := 0) dX11_image_46 (by decide) ?_
  refine V_aload_n (pc := 47) (i := 0) dX11_image_47 rfl rfl ?_
  refine VW_getR (pc := 48) dX11_image_48 fX11_44 (by first | assumption | rfl) rfl ?_
  refine VW_getR (pc := 51) dX11_image_51 fX11_351 (by first | assumption | rfl) rfl ?_
  refine V_iconst (pc := 54) (v := 0) dX11_image_54 (by decide) ?_
  refine V_iconst (pc := 55) (v := 3) dX11_image_55 (by decide) ?_
  refine VW_copyN (pc := 56) (s' := 0) (d9 := 0) (n' := 3) dX11_image_56 cX11_352 (by first | assumption | rfl) (by first | assumption | rfl) (by assumption) rfl rfl rfl (by decide) (by decide) (by decide) (by decide) (by omega) (Nat.le_of_ble_eq_true rfl) ?_
  rw [seenCp_off (k' := 27) (by decide), actCp_off (k' := 27) (by decide) (by decide), stCp_off (k' := 27) (by decide), seenCp_off (k' := 39) (by decide), actCp_off (k' := 39) (by decide) (by decide), stCp_off (k' := 39) (by decide)]
  refine V_aload_n (pc := 59) (i := 0) dX11_image_59 rfl rfl ?_
  refine VW_getR (pc := 60) dX11_image_60 fX11_44 (by first | assumption | rfl) rfl ?_
  refine V_iconst (pc := 63) (v := 1) dX11_image_63 (by decide) ?_
  refine VW_putI (pc := 64) dX11_image_64 fX11_116 ftX2 (fpZ rfl rfl (tyX2_ok 4 (by decide)) (by first | exact Or.inl rfl | exact Or.inr rfl)) (by first | assumption | rfl) rfl (by assumption) ?_
  exact VE_vret (pc := 67) dX11_image_67 rfl rfl
theorem X11_restore_no {s n pp r bb : Nat} (ci : RI S s n pp r bb) (hz : S 28 4 = 0) (hb : gB G ≤ b) (hd : 2 ≤ d) : VM G mX11_restore d 0 0 [.ref (b + 0)] (xE (some (.int (0))) (wH G b tbC (S) h0)) (wH G b tbC S h0) := by
  obtain ⟨hsh, hn, h12, hg, hp, h8, hr, h7, hbb, hb8⟩ := id ci
  have hs := shC_or (S 0 9)
  have hS := tbC_shore (S 0 9)
  rw [hsh] at hs hS
  obtain ⟨a0, a1, a2, a3, a4, a5, a6, a7⟩ := id hS
  obtain ⟨i0, i1, i2, i3⟩ := id a2
  obtain ⟨r0, r1, r2⟩ := id a3
  refine VM_start (ls := [some (.ref (b + 0))]) rfl ?_
  -- %m X11_restore
  refine V_aload_n (pc := 0) (i := 0) dX11_restore_0 rfl rfl ?_
  refine VW_getR (pc := 1) dX11_restore_1 fX11_44 (by first | assumption | rfl) rfl ?_
  refine VW_getI (pc := 4) dX11_restore_4 fX11_116 (by first | assumption | rfl) rfl ?_
  refine V_if_ne (pc := 7) 12 dX11_restore_7 rfl (fun c7 => ?_) (fun c7 => ?_)
  · exact absurd hz c7
  · refine V_iconst (pc := 10) (v := 0) dX11_restore_10 (by decide) ?_
    exact VE_zret (pc := 11) dX11_restore_11 rfl (Or.inl rfl) rfl rfl
def rstS (S : Nat → Nat → Int32) : Nat → Nat → Int32 := upR (seenCp (actCp (stCp S 17 29) 22 34) 24 36) 27 (va_cpy (S 39) (S 27) 0 0 3)
theorem X11_restore_ok {s n pp r bb : Nat} (ci : RI S s n pp r bb) (hz : ¬ S 28 4 = 0) (hb : gB G ≤ b) (hd : 2 ≤ d) : VM G mX11_restore d 0 0 [.ref (b + 0)] (xE (some (.int (1))) (wH G b tbC (rstS S) h0)) (wH G b tbC S h0) := by
  obtain ⟨hsh, hn, h12, hg, hp, h8, hr, h7, hbb, hb8⟩ := id ci
  have hs := shC_or (S 0 9)
  have hS := tbC_shore (S 0 9)
  rw [hsh] at hs hS
  obtain ⟨a0, a1, a2, a3, a4, a5, a6, a7⟩ := id hS
  obtain ⟨i0, i1, i2, i3⟩ := id a2
  obtain ⟨r0, r1, r2⟩ := id a3
  refine VM_start (ls := [some (.ref (b + 0))]) rfl ?_
  -- %m X11_restore
  unfold rstS
  refine V_aload_n (pc := 0) (i := 0) dX11_restore_0 rfl rfl ?_
  refine VW_getR (pc := 1) dX11_restore_1 fX11_44 (by first | assumption | rfl) rfl ?_
  refine VW_getI (pc := 4) dX11_restore_4 fX11_116 (by first | assumption | rfl) rfl ?_
  refine V_if_ne (pc := 7) 12 dX11_restore_7 rfl (fun c7 => ?_) (fun c7 => ?_)
  · refine V_aload_n (pc := 12) (i := 0) dX11_restore_12 rfl rfl ?_
    refine VW_getR (pc := 13) dX11_restore_13 fX11_19 (by first | assumption | rfl) rfl ?_
    refine V_aload_n (pc := 16) (i := 0) dX11_restore_16 rfl rfl ?_
    refine VW_getR (pc := 17) dX11_restore_17 fX11_44 (by first | assumption | rfl) rfl ?_
    refine VW_getR (pc := 20) dX11_restore_20 fX11_342 (by first | assumption | rfl) rfl ?_
    refine V_V1v (pc := 23) dX11_restore_23 cX11_240 (by first | assumption | rfl) (X8_copyFrom (d := 1) tbC_17 tbC_29 (by decide) hb (by omega)) (Nat.le_of_ble_eq_true rfl) (by omega) (Nat.le_of_ble_eq_true rfl) ?_
    refine V_aload_n (pc := 26) (i := 0) dX11_restore_26 rfl rfl ?_
    refine VW_getR (pc := 27) dX11_restore_27 fX11_26 (by first | assumption | rfl) rfl ?_
    refine V_aload_n (pc := 30) (i := 0) dX11_restore_30 rfl rfl ?_
    refine VW_getR (pc := 31) dX11_restore_31 fX11_44 (by first | assumption | rfl) rfl ?_
    refine VW_getR (pc := 34) dX11_restore_34 fX11_343 (by first | assumption | rfl) rfl ?_
    refine V_V1v (pc := 37) dX11_restore_37 cX11_344 (by first | assumption | rfl) (X0_copyFrom (d := 1) tbC_22 tbC_34 (by decide) hb (by omega)) (Nat.le_of_ble_eq_true rfl) (by omega) (Nat.le_of_ble_eq_true rfl) ?_
    refine V_aload_n (pc := 40) (i := 0) dX11_restore_40 rfl rfl ?_
    refine VW_getR (pc := 41) dX11_restore_41 fX11_33 (by first | assumption | rfl) rfl ?_
    refine V_aload_n (pc := 44) (i := 0) dX11_restore_44 rfl rfl ?_
    refine VW_getR (pc := 45) dX11_restore_45 fX11_44 (by first | assumption | rfl) rfl ?_
    refine VW_getR (pc := 48) dX11_restore_48 fX11_347 (by first | assumption | rfl) rfl ?_
    refine V_V1v (pc := 51) dX11_restore_51 cX11_348 (by first | assumption | rfl) (X5_copyFrom (d := 1) tbC_24 tbC_36 (by decide) hb (by omega)) (Nat.le_of_ble_eq_true rfl) (by omega) (Nat.le_of_ble_eq_true rfl) ?_
    refine V_aload_n (pc := 54) (i := 0) dX11_restore_54 rfl rfl ?_
    refine VW_getR (pc := 55) dX11_restore_55 fX11_44 (by first | assumption | rfl) rfl ?_
    refine VW_getR (pc := 58) dX11_restore_58 fX11_351 (by first | assumption | rfl) rfl ?_
    refine V_iconst (pc := 61) (v := 0) dX11_restore_61 (by decide) ?_
    refine V_aload_n (pc := 62) (i := 0) dX11_restore_62 rfl rfl ?_
    refine VW_getR (pc := 63) dX11_restore_63 fX11_37 (by first | assumption | rfl) rfl ?_
    refine V_iconst (pc := 66) (v := 0) dX11_restore_66 (by decide) ?_
    refine V_iconst (pc := 67) (v := 3) dX11_restore_67 (by decide) ?_
    refine VW_copyN (pc := 68) (s' := 0) (d9 := 0) (n' := 3) dX11_restore_68 cX11_352 (by first | assumption | rfl) (by first | assumption | rfl) (by assumption) rfl rfl rfl (by decide) (by decide) (by decide) (by decide) (by omega) (Nat.le_of_ble_eq_true rfl) ?_
    rw [seenCp_off (k' := 27) (by decide), actCp_off (k' := 27) (by decide) (by decide), stCp_off (k' := 27) (by decide), seenCp_off (k' := 39) (by decide), actCp_off (k' := 39) (by decide) (by decide), stCp_off (k' := 39) (by decide)]
    refine V_iconst (pc := 71) (v := 1) dX11_restore_71 (by decide) ?_
    exact VE_zret (pc := 72) dX11_restore_72 rfl (Or.inr rfl) rfl rfl
  · exact absurd c7 hz
end Face5
