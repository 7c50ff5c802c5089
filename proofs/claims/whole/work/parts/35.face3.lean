/-! ===== the face: THINGS and IFS ===== -/
section Face3
variable {G : xG} {d : Nat} {b : Nat} {S T : Nat → Nat → Int32} {h0 h : xH}
/-- those that are so, as bits: m from i on -/
def colB (P : Nat → Bool) : Nat → Nat → Int32 → Int32
  | 0, _, x => x
  | m + 1, i, x => colB P m (i + 1) (if P i then x ||| 1 <<< (nI i &&& 31) else x)
/-- how many are so: m from i on -/
def cntP (P : Nat → Bool) : Nat → Nat → Int32 → Int32
  | 0, _, x => x
  | m + 1, i, x => cntP P m (i + 1) (if P i then x + 1 else x)
/-- the first of the least sets that are so, of those that aren't passed over: z so far, of f members -/
def bstF (sk P : Nat → Bool) : Nat → Nat → Int32 → Int32 → Int32
  | 0, _, z, _ => z
  | m + 1, i, z, f => if sk i = true ∨ f ≤ bcI (nI i) then bstF sk P m (i + 1) z f else if P i then bstF sk P m (i + 1) (nI i) (bcI (nI i)) else bstF sk P m (i + 1) z f
theorem st1 {k : Nat} (hk : k < 31) : (1 : Int32) <<< (nI k &&& 31) = nI (2 ^ k) := shl1 k hk
theorem X11_comes {s n pp r bb : Nat} (ci : RI S s n pp r bb) {a : Nat} (ha : a ≤ 1023) (hb : gB G ≤ b) (hd : 3 ≤ d) : VM G mX11_comes d 0 0 [.ref (b + 0), .int (nI a)] (xE (some (.int (allF (cF S (s + 2) n (S 17 4)) (S (s + 5)) 10 (nI a)))) (wH G b tbC (S) h0)) (wH G b tbC S h0) := by
  obtain ⟨hsh, hn, h12, hg, hp, h8, hr, h7, hbb, hb8⟩ := id ci
  have hs := shC_or (S 0 9)
  have hS := tbC_shore (S 0 9)
  rw [hsh] at hs hS
  obtain ⟨a0, a1, a2, a3, a4, a5, a6, a7⟩ := id hS
  obtain ⟨i0, i1, i2, i3⟩ := id a2
  obtain ⟨r0, r1, r2⟩ := id a3
  refine VM_start (ls := [some (.ref (b + 0)), some (.int (nI a))]) rfl ?_
  -- %m X11_comes
  refine V_iload_n (pc := 0) (i := 1) dX11_comes_0 rfl rfl ?_
  refine V_iconst (pc := 1) (v := 0) dX11_comes_1 (by decide) ?_
  refine V_sipush (pc := 2) (v := 1023) dX11_comes_2 (by decide) ?_
  refine V_S3v (pc := 5) dX11_comes_5 cX11_94 (within_ok (l := 0) (m := 1023) (d := 0) (Nat.zero_le _) ha (by decide)) (Nat.le_of_ble_eq_true rfl) (by omega) (Nat.le_of_ble_eq_true rfl) ?_
  refine V_aload_n (pc := 8) (i := 0) dX11_comes_8 rfl rfl ?_
  refine VW_getWs (pc := 9) dX11_comes_9 fX11_68 (by first | assumption | rfl) rfl (by first | assumption | (simp (disch := omega) only [up2_row, up2_col, up2_same, upR_row]; assumption)) ?_
  refine VW_getR (pc := 12) dX11_comes_12 fX11_123 (by first | assumption | rfl) rfl ?_
  refine V_iload_n (pc := 15) (i := 1) dX11_comes_15 rfl rfl ?_
  refine V_aload_n (pc := 16) (i := 0) dX11_comes_16 rfl rfl ?_
  refine VW_getR (pc := 17) dX11_comes_17 fX11_19 (by first | assumption | rfl) rfl ?_
  refine VW_getI (pc := 20) dX11_comes_20 fX11_139 (by first | assumption | rfl) rfl ?_
  refine V_V2i (pc := 23) dX11_comes_23 cX11_262 (by first | assumption | rfl) (X1_allFrom (d := 2) a2 hn h12 (by omega) _ _) (Nat.le_of_ble_eq_true rfl) (by omega) (Nat.le_of_ble_eq_true rfl) ?_
  exact VE_iret (pc := 26) dX11_comes_26 rfl rfl rfl
theorem X11_why {s n pp r bb : Nat} (ci : RI S s n pp r bb) {a t : Nat} (ha : a ≤ 1023) (ht : t < 10) (hb : gB G ≤ b) (hd : 4 ≤ d) : VM G mX11_why d 0 0 [.ref (b + 0), .int (nI a), .int (nI t)] (xE (some (.int ((fewF (cFf S (s + 2) n (S 17 4)) (S (s + 5)) (nI a) (nI t) (1024 - a) a (-1) (upd (fillR (S 42) 0 0 1024) a 1)).1))) (wH G b tbC (upR S 42 (fewF (cFf S (s + 2) n (S 17 4)) (S (s + 5)) (nI a) (nI t) (1024 - a) a (-1) (upd (fillR (S 42) 0 0 1024) a 1)).2) h0)) (wH G b tbC S h0) := by
  obtain ⟨hsh, hn, h12, hg, hp, h8, hr, h7, hbb, hb8⟩ := id ci
  have hs := shC_or (S 0 9)
  have hS := tbC_shore (S 0 9)
  rw [hsh] at hs hS
  obtain ⟨a0, a1, a2, a3, a4, a5, a6, a7⟩ := id hS
  obtain ⟨i0, i1, i2, i3⟩ := id a2
  obtain ⟨r0, r1, r2⟩ := id a3
  refine VM_start (ls := [some (.ref (b + 0)), some (.int (nI a)), some (.int (nI t))]) rfl ?_
  -- %m X11_why
  refine V_iload_n (pc := 0) (i := 2) dX11_why_0 rfl rfl ?_
  refine V_S1v (pc := 1) dX11_why_1 cX11_161 (X11_mustBeThing_ok (d := 0) ht) (Nat.le_of_ble_eq_true rfl) (by omega) (Nat.le_of_ble_eq_true rfl) ?_
  refine V_iload_n (pc := 4) (i := 1) dX11_why_4 rfl rfl ?_
  refine V_iconst (pc := 5) (v := 0) dX11_why_5 (by decide) ?_
  refine V_sipush (pc := 6) (v := 1023) dX11_why_6 (by decide) ?_
  refine V_S3v (pc := 9) dX11_why_9 cX11_94 (within_ok (l := 0) (m := 1023) (d := 0) (Nat.zero_le _) ha (by decide)) (Nat.le_of_ble_eq_true rfl) (by omega) (Nat.le_of_ble_eq_true rfl) ?_
  refine V_aload_n (pc := 12) (i := 0) dX11_why_12 rfl rfl ?_
  refine VW_getR (pc := 13) dX11_why_13 fX11_51 (by first | assumption | rfl) rfl ?_
  refine V_aload_n (pc := 16) (i := 0) dX11_why_16 rfl rfl ?_
  refine VW_getWs (pc := 17) dX11_why_17 fX11_68 (by first | assumption | rfl) rfl (by first | assumption | (simp (disch := omega) only [up2_row, up2_col, up2_same, upR_row]; assumption)) ?_
  refine VW_getR (pc := 20) dX11_why_20 fX11_123 (by first | assumption | rfl) rfl ?_
  refine V_aload_n (pc := 23) (i := 0) dX11_why_23 rfl rfl ?_
  refine VW_getR (pc := 24) dX11_why_24 fX11_19 (by first | assumption | rfl) rfl ?_
  refine VW_getI (pc := 27) dX11_why_27 fX11_139 (by first | assumption | rfl) rfl ?_
  refine V_iload_n (pc := 30) (i := 1) dX11_why_30 rfl rfl ?_
  refine V_iload_n (pc := 31) (i := 2) dX11_why_31 rfl rfl ?_
  refine V_V4i (pc := 32) dX11_why_32 cX11_266 (by first | assumption | rfl) (X6_fewestSteps (d := 3) a2 (by omega) hn h12 hg _ _ (by omega) hb (by omega)) (Nat.le_of_ble_eq_true rfl) (by omega) (Nat.le_of_ble_eq_true rfl) ?_
  exact VE_iret (pc := 35) dX11_why_35 rfl rfl rfl
theorem X11_needed {s n pp r bb : Nat} (ci : RI S s n pp r bb) {a t : Nat} (ha : a ≤ 1023) (ht : t < 10) (hb : gB G ≤ b) (hd : 3 ≤ d) : VM G mX11_needed d 0 0 [.ref (b + 0), .int (nI a), .int (nI t)] (xE (some (.int (if hasB (allF (cF S (s + 2) n (S 17 4)) (S (s + 5)) 10 (nI a)) (nI t) then colB (fun i => !hasB (allF (cF S (s + 2) n (S 17 4 ||| 1 <<< (nI i &&& 31))) (S (s + 5)) 10 (nI a)) (nI t)) n 0 0 else 0))) (wH G b tbC (S) h0)) (wH G b tbC S h0) := by
  obtain ⟨hsh, hn, h12, hg, hp, h8, hr, h7, hbb, hb8⟩ := id ci
  have hs := shC_or (S 0 9)
  have hS := tbC_shore (S 0 9)
  rw [hsh] at hs hS
  obtain ⟨a0, a1, a2, a3, a4, a5, a6, a7⟩ := id hS
  obtain ⟨i0, i1, i2, i3⟩ := id a2
  obtain ⟨r0, r1, r2⟩ := id a3
  refine VM_start (ls := [some (.ref (b + 0)), some (.int (nI a)), some (.int (nI t)), none, none, none]) rfl ?_
  -- %m X11_needed
  refine V_iload_n (pc := 0) (i := 2) dX11_needed_0 rfl rfl ?_
  refine V_S1v (pc := 1) dX11_needed_1 cX11_161 (X11_mustBeThing_ok (d := 0) ht) (Nat.le_of_ble_eq_true rfl) (by omega) (Nat.le_of_ble_eq_true rfl) ?_
  refine V_iload_n (pc := 4) (i := 1) dX11_needed_4 rfl rfl ?_
  refine V_iconst (pc := 5) (v := 0) dX11_needed_5 (by decide) ?_
  refine V_sipush (pc := 6) (v := 1023) dX11_needed_6 (by decide) ?_
  refine V_S3v (pc := 9) dX11_needed_9 cX11_94 (within_ok (l := 0) (m := 1023) (d := 0) (Nat.zero_le _) ha (by decide)) (Nat.le_of_ble_eq_true rfl) (by omega) (Nat.le_of_ble_eq_true rfl) ?_
  refine V_iload_n (pc := 12) (i := 2) dX11_needed_12 rfl rfl ?_
  refine V_aload_n (pc := 13) (i := 0) dX11_needed_13 rfl rfl ?_
  refine VW_getWs (pc := 14) dX11_needed_14 fX11_68 (by first | assumption | rfl) rfl (by first | assumption | (simp (disch := omega) only [up2_row, up2_col, up2_same, upR_row]; assumption)) ?_
  refine VW_getR (pc := 17) dX11_needed_17 fX11_123 (by first | assumption | rfl) rfl ?_
  refine V_iload_n (pc := 20) (i := 1) dX11_needed_20 rfl rfl ?_
  refine V_aload_n (pc := 21) (i := 0) dX11_needed_21 rfl rfl ?_
  refine VW_getR (pc := 22) dX11_needed_22 fX11_19 (by first | assumption | rfl) rfl ?_
  refine VW_getI (pc := 25) dX11_needed_25 fX11_139 (by first | assumption | rfl) rfl ?_
  refine V_V2i (pc := 28) dX11_needed_28 cX11_262 (by first | assumption | rfl) (X1_allFrom (d := 2) a2 hn h12 (by omega) _ _) (Nat.le_of_ble_eq_true rfl) (by omega) (Nat.le_of_ble_eq_true rfl) ?_
  refine V_S2i (pc := 31) dX11_needed_31 cX11_182 (X11_isIn (d := 0) _ _) (Nat.le_of_ble_eq_true rfl) (by omega) (Nat.le_of_ble_eq_true rfl) ?_
  refine V_if_ne (pc := 34) 39 dX11_needed_34 rfl (fun c34 => ?_) (fun c34 => ?_)
  · rw [if_pos (b2i_n0.mp c34)]
    refine V_iconst (pc := 39) (v := 0) dX11_needed_39 (by decide) ?_
    refine V_istore_n (pc := 40) (i := 3) dX11_needed_40 rfl (by decide) rfl ?_
    refine V_iconst (pc := 41) (v := 0) dX11_needed_41 (by decide) ?_
    refine V_istore (pc := 42) dX11_needed_42 (by decide) rfl ?_
    have loop : ∀ (m i : Nat) (x : Int32), m + i = n → V G mX11_needed d 0 0 (xE (some (.int (colB (fun i => !hasB (allF (cF S (s + 2) n (S 17 4 ||| 1 <<< (nI i &&& 31))) (S (s + 5)) 10 (nI a)) (nI t)) m i x))) (wH G b tbC (S) h0)) 44 [some (.ref (b + 0)), some (.int (nI a)), some (.int (nI t)), some (.int x), some (.int (nI i)), none] [] (wH G b tbC (S) h0) := by
      intro m
      induction m with
      | zero =>
        intro i x hm
        refine V_iload (pc := 44) dX11_needed_44 rfl ?_
        refine V_aload_n (pc := 46) (i := 0) dX11_needed_46 rfl rfl ?_
        refine VW_getWs (pc := 47) dX11_needed_47 fX11_68 (by first | assumption | rfl) rfl (by first | assumption | (simp (disch := omega) only [up2_row, up2_col, up2_same, upR_row]; assumption)) ?_
        refine VW_getR (pc := 50) dX11_needed_50 fX11_123 (by first | assumption | rfl) rfl ?_
        refine VW_getI (pc := 53) dX11_needed_53 fX11_127 (by first | assumption | rfl) rfl ?_
        refine V_icmp_ge (pc := 56) 106 dX11_needed_56 rfl (fun c56 => ?_) (fun c56 => ?_)
        · refine V_iload_n (pc := 106) (i := 3) dX11_needed_106 rfl rfl ?_
          exact VE_iret (pc := 107) dX11_needed_107 rfl rfl rfl
        · exact absurd (by rw [hn, show i = n by omega]; exact nI_le (by omega) (by omega)) c56
      | succ m ih =>
        intro i x hm
        rw [colB]
        refine V_iload (pc := 44) dX11_needed_44 rfl ?_
        refine V_aload_n (pc := 46) (i := 0) dX11_needed_46 rfl rfl ?_
        refine VW_getWs (pc := 47) dX11_needed_47 fX11_68 (by first | assumption | rfl) rfl (by first | assumption | (simp (disch := omega) only [up2_row, up2_col, up2_same, upR_row]; assumption)) ?_
        refine VW_getR (pc := 50) dX11_needed_50 fX11_123 (by first | assumption | rfl) rfl ?_
        refine VW_getI (pc := 53) dX11_needed_53 fX11_127 (by first | assumption | rfl) rfl ?_
        refine V_icmp_ge (pc := 56) 106 dX11_needed_56 rfl (fun c56 => ?_) (fun c56 => ?_)
        · exact absurd c56 (by rw [hn]; exact nI_ge (by omega) (by omega))
        · refine V_aload_n (pc := 59) (i := 0) dX11_needed_59 rfl rfl ?_
          refine VW_getWs (pc := 60) dX11_needed_60 fX11_68 (by first | assumption | rfl) rfl (by first | assumption | (simp (disch := omega) only [up2_row, up2_col, up2_same, upR_row]; assumption)) ?_
          refine VW_getR (pc := 63) dX11_needed_63 fX11_123 (by first | assumption | rfl) rfl ?_
          refine V_iload_n (pc := 66) (i := 1) dX11_needed_66 rfl rfl ?_
          refine V_aload_n (pc := 67) (i := 0) dX11_needed_67 rfl rfl ?_
          refine VW_getR (pc := 68) dX11_needed_68 fX11_19 (by first | assumption | rfl) rfl ?_
          refine VW_getI (pc := 71) dX11_needed_71 fX11_139 (by first | assumption | rfl) rfl ?_
          refine V_iconst (pc := 74) (v := 1) dX11_needed_74 (by decide) ?_
          refine V_iload (pc := 75) dX11_needed_75 rfl ?_
          refine V_ishl (pc := 77) dX11_needed_77 ?_
          refine V_ior (pc := 78) dX11_needed_78 ?_
          refine V_V2i (pc := 79) dX11_needed_79 cX11_262 (by first | assumption | rfl) (X1_allFrom (d := 2) a2 hn h12 (by omega) _ _) (Nat.le_of_ble_eq_true rfl) (by omega) (Nat.le_of_ble_eq_true rfl) ?_
          refine V_istore (pc := 82) dX11_needed_82 (by decide) rfl ?_
          refine V_iload_n (pc := 84) (i := 2) dX11_needed_84 rfl rfl ?_
          refine V_iload (pc := 85) dX11_needed_85 rfl ?_
          refine V_S2i (pc := 87) dX11_needed_87 cX11_182 (X11_isIn (d := 0) _ _) (Nat.le_of_ble_eq_true rfl) (by omega) (Nat.le_of_ble_eq_true rfl) ?_
          refine V_if_ne (pc := 90) 100 dX11_needed_90 rfl (fun c90 => ?_) (fun c90 => ?_)
          · rw [if_neg (by simp [b2i_n0.mp c90])]
            refine V_iinc (pc := 100) dX11_needed_100 (by decide) rfl rfl (iincN (n := 1) (by decide)) ?_
            refine V_goto (pc := 103) 44 dX11_needed_103 rfl ?_
            exact V_forget 5 (ih (i + 1) _ (by omega))
          · rw [if_pos (by simp [b2i_0.mp c90])]
            refine V_iload_n (pc := 93) (i := 3) dX11_needed_93 rfl rfl ?_
            refine V_iconst (pc := 94) (v := 1) dX11_needed_94 (by decide) ?_
            refine V_iload (pc := 95) dX11_needed_95 rfl ?_
            refine V_ishl (pc := 97) dX11_needed_97 ?_
            refine V_ior (pc := 98) dX11_needed_98 ?_
            refine V_istore_n (pc := 99) (i := 3) dX11_needed_99 rfl (by decide) rfl ?_
            refine V_iinc (pc := 100) dX11_needed_100 (by decide) rfl rfl (iincN (n := 1) (by decide)) ?_
            refine V_goto (pc := 103) 44 dX11_needed_103 rfl ?_
            exact V_forget 5 (ih (i + 1) _ (by omega))
    exact loop n 0 _ rfl
  · rw [if_neg (by rw [b2i_0.mp c34]; decide)]
    refine V_iconst (pc := 37) (v := 0) dX11_needed_37 (by decide) ?_
    exact VE_iret (pc := 38) dX11_needed_38 rfl rfl rfl
theorem X11_fewest {s n pp r bb : Nat} (ci : RI S s n pp r bb) {a t : Nat} (ha : a ≤ 1023) (ht : t < 10) (hb : gB G ≤ b) (hd : 3 ≤ d) : VM G mX11_fewest d 0 0 [.ref (b + 0), .int (nI a), .int (nI t)] (xE (some (.int (bstF (fun i => hasB (nI i) (nI t)) (fun i => hasB (allF (cF S (s + 2) n (S 17 4)) (S (s + 5)) 10 (nI a ||| nI i)) (nI t)) 1024 0 (-1) 11))) (wH G b tbC (S) h0)) (wH G b tbC S h0) := by
  obtain ⟨hsh, hn, h12, hg, hp, h8, hr, h7, hbb, hb8⟩ := id ci
  have hs := shC_or (S 0 9)
  have hS := tbC_shore (S 0 9)
  rw [hsh] at hs hS
  obtain ⟨a0, a1, a2, a3, a4, a5, a6, a7⟩ := id hS
  obtain ⟨i0, i1, i2, i3⟩ := id a2
  obtain ⟨r0, r1, r2⟩ := id a3
  refine VM_start (ls := [some (.ref (b + 0)), some (.int (nI a)), some (.int (nI t)), none, none, none]) rfl ?_
  -- %m X11_fewest
  refine V_iload_n (pc := 0) (i := 2) dX11_fewest_0 rfl rfl ?_
  refine V_S1v (pc := 1) dX11_fewest_1 cX11_161 (X11_mustBeThing_ok (d := 0) ht) (Nat.le_of_ble_eq_true rfl) (by omega) (Nat.le_of_ble_eq_true rfl) ?_
  refine V_iload_n (pc := 4) (i := 1) dX11_fewest_4 rfl rfl ?_
  refine V_iconst (pc := 5) (v := 0) dX11_fewest_5 (by decide) ?_
  refine V_sipush (pc := 6) (v := 1023) dX11_fewest_6 (by decide) ?_
  refine V_S3v (pc := 9) dX11_fewest_9 cX11_94 (within_ok (l := 0) (m := 1023) (d := 0) (Nat.zero_le _) ha (by decide)) (Nat.le_of_ble_eq_true rfl) (by omega) (Nat.le_of_ble_eq_true rfl) ?_
  refine V_iconst (pc := 12) (v := -1) dX11_fewest_12 (by decide) ?_
  refine V_istore_n (pc := 13) (i := 3) dX11_fewest_13 rfl (by decide) rfl ?_
  refine V_bipush (pc := 14) (v := 11) dX11_fewest_14 (by decide) ?_
  refine V_istore (pc := 16) dX11_fewest_16 (by decide) rfl ?_
  refine V_iconst (pc := 18) (v := 0) dX11_fewest_18 (by decide) ?_
  refine V_istore (pc := 19) dX11_fewest_19 (by decide) rfl ?_
  have loop : ∀ (m i : Nat) (z : Int32) (f : Int32), m + i = 1024 → V G mX11_fewest d 0 0 (xE (some (.int (bstF (fun i => hasB (nI i) (nI t)) (fun i => hasB (allF (cF S (s + 2) n (S 17 4)) (S (s + 5)) 10 (nI a ||| nI i)) (nI t)) m i z f))) (wH G b tbC (S) h0)) 21 [some (.ref (b + 0)), some (.int (nI a)), some (.int (nI t)), some (.int z), some (.int f), some (.int (nI i))] [] (wH G b tbC (S) h0) := by
    intro m
    induction m with
    | zero =>
      intro i z f hm
      refine V_iload (pc := 21) dX11_fewest_21 rfl ?_
      refine V_sipush (pc := 23) (v := 1024) dX11_fewest_23 (by decide) ?_
      refine V_icmp_ge (pc := 26) 95 dX11_fewest_26 rfl (fun c26 => ?_) (fun c26 => ?_)
      · refine V_iload_n (pc := 95) (i := 3) dX11_fewest_95 rfl rfl ?_
        exact VE_iret (pc := 96) dX11_fewest_96 rfl rfl rfl
      · exact absurd (by rw [show i = 1024 by omega]; decide) c26
    | succ m ih =>
      intro i z f hm
      rw [bstF]
      refine V_iload (pc := 21) dX11_fewest_21 rfl ?_
      refine V_sipush (pc := 23) (v := 1024) dX11_fewest_23 (by decide) ?_
      refine V_icmp_ge (pc := 26) 95 dX11_fewest_26 rfl (fun c26 => ?_) (fun c26 => ?_)
      · exact absurd c26 (nI_ge (b := 1024) (by omega) (by decide))
      · refine V_iload_n (pc := 29) (i := 2) dX11_fewest_29 rfl rfl ?_
        refine V_iload (pc := 30) dX11_fewest_30 rfl ?_
        refine V_S2i (pc := 32) dX11_fewest_32 cX11_182 (X11_isIn (d := 0) _ _) (Nat.le_of_ble_eq_true rfl) (by omega) (Nat.le_of_ble_eq_true rfl) ?_
        refine V_if_ne (pc := 35) 89 dX11_fewest_35 rfl (fun c35 => ?_) (fun c35 => ?_)
        · rw [if_pos (Or.inl (b2i_n0.mp c35))]
          refine V_iinc (pc := 89) dX11_fewest_89 (by decide) rfl rfl (iincN (n := 1) (by decide)) ?_
          refine V_goto (pc := 92) 21 dX11_fewest_92 rfl ?_
          exact ih (i + 1) _ _ (by omega)
        · refine V_iload (pc := 38) dX11_fewest_38 rfl ?_
          refine V_S1i (pc := 40) dX11_fewest_40 cX11_257 (J6_bitCount (d := 0) _) (Nat.le_of_ble_eq_true rfl) (by omega) (Nat.le_of_ble_eq_true rfl) ?_
          refine V_iload (pc := 43) dX11_fewest_43 rfl ?_
          refine V_icmp_lt (pc := 45) 51 dX11_fewest_45 rfl (fun c45 => ?_) (fun c45 => ?_)
          · rw [if_neg (fun q => q.elim (fun q => absurd q (by rw [b2i_0.mp c35]; decide)) (Int32.not_le.mpr c45))]
            refine V_iload_n (pc := 51) (i := 2) dX11_fewest_51 rfl rfl ?_
            refine V_aload_n (pc := 52) (i := 0) dX11_fewest_52 rfl rfl ?_
            refine VW_getWs (pc := 53) dX11_fewest_53 fX11_68 (by first | assumption | rfl) rfl (by first | assumption | (simp (disch := omega) only [up2_row, up2_col, up2_same, upR_row]; assumption)) ?_
            refine VW_getR (pc := 56) dX11_fewest_56 fX11_123 (by first | assumption | rfl) rfl ?_
            refine V_iload_n (pc := 59) (i := 1) dX11_fewest_59 rfl rfl ?_
            refine V_iload (pc := 60) dX11_fewest_60 rfl ?_
            refine V_ior (pc := 62) dX11_fewest_62 ?_
            refine V_aload_n (pc := 63) (i := 0) dX11_fewest_63 rfl rfl ?_
            refine VW_getR (pc := 64) dX11_fewest_64 fX11_19 (by first | assumption | rfl) rfl ?_
            refine VW_getI (pc := 67) dX11_fewest_67 fX11_139 (by first | assumption | rfl) rfl ?_
            refine V_V2i (pc := 70) dX11_fewest_70 cX11_262 (by first | assumption | rfl) (X1_allFrom (d := 2) a2 hn h12 (by omega) _ _) (Nat.le_of_ble_eq_true rfl) (by omega) (Nat.le_of_ble_eq_true rfl) ?_
            refine V_S2i (pc := 73) dX11_fewest_73 cX11_182 (X11_isIn (d := 0) _ _) (Nat.le_of_ble_eq_true rfl) (by omega) (Nat.le_of_ble_eq_true rfl) ?_
            refine V_if_eq (pc := 76) 89 dX11_fewest_76 rfl (fun c76 => ?_) (fun c76 => ?_)
            · rw [if_neg (by rw [b2i_0.mp c76]; decide)]
              refine V_iinc (pc := 89) dX11_fewest_89 (by decide) rfl rfl (iincN (n := 1) (by decide)) ?_
              refine V_goto (pc := 92) 21 dX11_fewest_92 rfl ?_
              exact ih (i + 1) _ _ (by omega)
            · rw [if_pos (b2i_n0.mp c76)]
              refine V_iload (pc := 79) dX11_fewest_79 rfl ?_
              refine V_istore_n (pc := 81) (i := 3) dX11_fewest_81 rfl (by decide) rfl ?_
              refine V_iload (pc := 82) dX11_fewest_82 rfl ?_
              refine V_S1i (pc := 84) dX11_fewest_84 cX11_257 (J6_bitCount (d := 0) _) (Nat.le_of_ble_eq_true rfl) (by omega) (Nat.le_of_ble_eq_true rfl) ?_
              refine V_istore (pc := 87) dX11_fewest_87 (by decide) rfl ?_
              refine V_iinc (pc := 89) dX11_fewest_89 (by decide) rfl rfl (iincN (n := 1) (by decide)) ?_
              refine V_goto (pc := 92) 21 dX11_fewest_92 rfl ?_
              exact ih (i + 1) _ _ (by omega)
          · rw [if_pos (Or.inr (Int32.not_lt.mp c45))]
            refine V_goto (pc := 48) 89 dX11_fewest_48 rfl ?_
            refine V_iinc (pc := 89) dX11_fewest_89 (by decide) rfl rfl (iincN (n := 1) (by decide)) ?_
            refine V_goto (pc := 92) 21 dX11_fewest_92 rfl ?_
            exact ih (i + 1) _ _ (by omega)
  exact loop 1024 0 _ _ rfl
theorem X11_leads {s n pp r bb : Nat} (ci : RI S s n pp r bb) {t o : Nat} (ht : t < 10) (ho : o < 10) (hb : gB G ≤ b) (hd : 3 ≤ d) : VM G mX11_leads d 0 0 [.ref (b + 0), .int (nI t), .int (nI o)] (xE (some (.int (b2i (!decide (stepF (fun x => ledF (S (s + 3)) (S (s + 5)) (S 17 4) x n 0 0) (nI o) 10 1 (1 <<< (nI t &&& 31)) = -1))))) (wH G b tbC (S) h0)) (wH G b tbC S h0) := by
  obtain ⟨hsh, hn, h12, hg, hp, h8, hr, h7, hbb, hb8⟩ := id ci
  have hs := shC_or (S 0 9)
  have hS := tbC_shore (S 0 9)
  rw [hsh] at hs hS
  obtain ⟨a0, a1, a2, a3, a4, a5, a6, a7⟩ := id hS
  obtain ⟨i0, i1, i2, i3⟩ := id a2
  obtain ⟨r0, r1, r2⟩ := id a3
  refine VM_start (ls := [some (.ref (b + 0)), some (.int (nI t)), some (.int (nI o))]) rfl ?_
  -- %m X11_leads
  refine V_iload_n (pc := 0) (i := 1) dX11_leads_0 rfl rfl ?_
  refine V_S1v (pc := 1) dX11_leads_1 cX11_161 (X11_mustBeThing_ok (d := 0) ht) (Nat.le_of_ble_eq_true rfl) (by omega) (Nat.le_of_ble_eq_true rfl) ?_
  refine V_iload_n (pc := 4) (i := 2) dX11_leads_4 rfl rfl ?_
  refine V_S1v (pc := 5) dX11_leads_5 cX11_161 (X11_mustBeThing_ok (d := 0) ho) (Nat.le_of_ble_eq_true rfl) (by omega) (Nat.le_of_ble_eq_true rfl) ?_
  refine V_aload_n (pc := 8) (i := 0) dX11_leads_8 rfl rfl ?_
  refine VW_getWs (pc := 9) dX11_leads_9 fX11_68 (by first | assumption | rfl) rfl (by first | assumption | (simp (disch := omega) only [up2_row, up2_col, up2_same, upR_row]; assumption)) ?_
  refine VW_getR (pc := 12) dX11_leads_12 fX11_123 (by first | assumption | rfl) rfl ?_
  refine V_iload_n (pc := 15) (i := 1) dX11_leads_15 rfl rfl ?_
  refine V_iload_n (pc := 16) (i := 2) dX11_leads_16 rfl rfl ?_
  refine V_aload_n (pc := 17) (i := 0) dX11_leads_17 rfl rfl ?_
  refine VW_getR (pc := 18) dX11_leads_18 fX11_19 (by first | assumption | rfl) rfl ?_
  refine VW_getI (pc := 21) dX11_leads_21 fX11_139 (by first | assumption | rfl) rfl ?_
  refine V_V3i (pc := 24) dX11_leads_24 cX11_270 (by first | assumption | rfl) (X1_stepsTo (d := 2) a2 hn h12 (by omega) _ _ _) (Nat.le_of_ble_eq_true rfl) (by omega) (Nat.le_of_ble_eq_true rfl) ?_
  refine V_iconst (pc := 27) (v := -1) dX11_leads_27 (by decide) ?_
  refine V_icmp_eq (pc := 28) 35 dX11_leads_28 rfl (fun c28 => ?_) (fun c28 => ?_)
  · refine V_iconst (pc := 35) (v := 0) dX11_leads_35 (by decide) ?_
    exact VE_zret (pc := 36) dX11_leads_36 rfl (by first | exact Or.inl rfl | exact Or.inr rfl) (by simp [b2i, c28]) rfl
  · refine V_iconst (pc := 31) (v := 1) dX11_leads_31 (by decide) ?_
    refine V_goto (pc := 32) 36 dX11_leads_32 rfl ?_
    exact VE_zret (pc := 36) dX11_leads_36 rfl (by first | exact Or.inl rfl | exact Or.inr rfl) (by simp [b2i, c28]) rfl
theorem X11_sources {s n pp r bb : Nat} (ci : RI S s n pp r bb) {t : Nat} (ht : t < 10) (hb : gB G ≤ b) (hd : 3 ≤ d) : VM G mX11_sources d 0 0 [.ref (b + 0), .int (nI t)] (xE (some (.int (colB (fun i => !decide (stepF (fun x => ledF (S (s + 3)) (S (s + 5)) (S 17 4) x n 0 0) (nI t) 10 1 (1 <<< (nI i &&& 31)) = -1)) 10 0 0))) (wH G b tbC (S) h0)) (wH G b tbC S h0) := by
  obtain ⟨hsh, hn, h12, hg, hp, h8, hr, h7, hbb, hb8⟩ := id ci
  have hs := shC_or (S 0 9)
  have hS := tbC_shore (S 0 9)
  rw [hsh] at hs hS
  obtain ⟨a0, a1, a2, a3, a4, a5, a6, a7⟩ := id hS
  obtain ⟨i0, i1, i2, i3⟩ := id a2
  obtain ⟨r0, r1, r2⟩ := id a3
  refine VM_start (ls := [some (.ref (b + 0)), some (.int (nI t)), none, none]) rfl ?_
  -- %m X11_sources
  refine V_iload_n (pc := 0) (i := 1) dX11_sources_0 rfl rfl ?_
  refine V_S1v (pc := 1) dX11_sources_1 cX11_161 (X11_mustBeThing_ok (d := 0) ht) (Nat.le_of_ble_eq_true rfl) (by omega) (Nat.le_of_ble_eq_true rfl) ?_
  refine V_iconst (pc := 4) (v := 0) dX11_sources_4 (by decide) ?_
  refine V_istore_n (pc := 5) (i := 2) dX11_sources_5 rfl (by decide) rfl ?_
  refine V_iconst (pc := 6) (v := 0) dX11_sources_6 (by decide) ?_
  refine V_istore_n (pc := 7) (i := 3) dX11_sources_7 rfl (by decide) rfl ?_
  have loop : ∀ (m i : Nat) (x : Int32), m + i = 10 → V G mX11_sources d 0 0 (xE (some (.int (colB (fun i => !decide (stepF (fun x => ledF (S (s + 3)) (S (s + 5)) (S 17 4) x n 0 0) (nI t) 10 1 (1 <<< (nI i &&& 31)) = -1)) m i x))) (wH G b tbC (S) h0)) 8 [some (.ref (b + 0)), some (.int (nI t)), some (.int x), some (.int (nI i))] [] (wH G b tbC (S) h0) := by
    intro m
    induction m with
    | zero =>
      intro i x hm
      refine V_iload_n (pc := 8) (i := 3) dX11_sources_8 rfl rfl ?_
      refine V_bipush (pc := 9) (v := 10) dX11_sources_9 (by decide) ?_
      refine V_icmp_ge (pc := 11) 49 dX11_sources_11 rfl (fun c11 => ?_) (fun c11 => ?_)
      · refine V_iload_n (pc := 49) (i := 2) dX11_sources_49 rfl rfl ?_
        exact VE_iret (pc := 50) dX11_sources_50 rfl rfl rfl
      · exact absurd (by rw [show i = 10 by omega]; decide) c11
    | succ m ih =>
      intro i x hm
      rw [colB]
      refine V_iload_n (pc := 8) (i := 3) dX11_sources_8 rfl rfl ?_
      refine V_bipush (pc := 9) (v := 10) dX11_sources_9 (by decide) ?_
      refine V_icmp_ge (pc := 11) 49 dX11_sources_11 rfl (fun c11 => ?_) (fun c11 => ?_)
      · exact absurd c11 (nI_ge (b := 10) (by omega) (by decide))
      · refine V_aload_n (pc := 14) (i := 0) dX11_sources_14 rfl rfl ?_
        refine VW_getWs (pc := 15) dX11_sources_15 fX11_68 (by first | assumption | rfl) rfl (by first | assumption | (simp (disch := omega) only [up2_row, up2_col, up2_same, upR_row]; assumption)) ?_
        refine VW_getR (pc := 18) dX11_sources_18 fX11_123 (by first | assumption | rfl) rfl ?_
        refine V_iload_n (pc := 21) (i := 3) dX11_sources_21 rfl rfl ?_
        refine V_iload_n (pc := 22) (i := 1) dX11_sources_22 rfl rfl ?_
        refine V_aload_n (pc := 23) (i := 0) dX11_sources_23 rfl rfl ?_
        refine VW_getR (pc := 24) dX11_sources_24 fX11_19 (by first | assumption | rfl) rfl ?_
        refine VW_getI (pc := 27) dX11_sources_27 fX11_139 (by first | assumption | rfl) rfl ?_
        refine V_V3i (pc := 30) dX11_sources_30 cX11_270 (by first | assumption | rfl) (X1_stepsTo (d := 2) a2 hn h12 (by omega) _ _ _) (Nat.le_of_ble_eq_true rfl) (by omega) (Nat.le_of_ble_eq_true rfl) ?_
        refine V_iconst (pc := 33) (v := -1) dX11_sources_33 (by decide) ?_
        refine V_icmp_eq (pc := 34) 43 dX11_sources_34 rfl (fun c34 => ?_) (fun c34 => ?_)
        · rw [if_neg (by simp [c34])]
          refine V_iinc (pc := 43) dX11_sources_43 (by decide) rfl rfl (iincN (n := 1) (by decide)) ?_
          refine V_goto (pc := 46) 8 dX11_sources_46 rfl ?_
          exact ih (i + 1) _ (by omega)
        · rw [if_pos (by simp [c34])]
          refine V_iload_n (pc := 37) (i := 2) dX11_sources_37 rfl rfl ?_
          refine V_iconst (pc := 38) (v := 1) dX11_sources_38 (by decide) ?_
          refine V_iload_n (pc := 39) (i := 3) dX11_sources_39 rfl rfl ?_
          refine V_ishl (pc := 40) dX11_sources_40 ?_
          refine V_ior (pc := 41) dX11_sources_41 ?_
          refine V_istore_n (pc := 42) (i := 2) dX11_sources_42 rfl (by decide) rfl ?_
          refine V_iinc (pc := 43) dX11_sources_43 (by decide) rfl rfl (iincN (n := 1) (by decide)) ?_
          refine V_goto (pc := 46) 8 dX11_sources_46 rfl ?_
          exact ih (i + 1) _ (by omega)
  exact loop 10 0 _ rfl
theorem X11_resting {s n pp r bb : Nat} (ci : RI S s n pp r bb) (hb : gB G ≤ b) (hd : 2 ≤ d) : VM G mX11_resting d 0 0 [.ref (b + 0)] (xE (some (.int (cntP (fun i => decide (cF S (s + 2) n (S 17 4) (nI i) = -1)) 1024 0 0))) (wH G b tbC (S) h0)) (wH G b tbC S h0) := by
  obtain ⟨hsh, hn, h12, hg, hp, h8, hr, h7, hbb, hb8⟩ := id ci
  have hs := shC_or (S 0 9)
  have hS := tbC_shore (S 0 9)
  rw [hsh] at hs hS
  obtain ⟨a0, a1, a2, a3, a4, a5, a6, a7⟩ := id hS
  obtain ⟨i0, i1, i2, i3⟩ := id a2
  obtain ⟨r0, r1, r2⟩ := id a3
  refine VM_start (ls := [some (.ref (b + 0)), none, none]) rfl ?_
  -- %m X11_resting
  refine V_iconst (pc := 0) (v := 0) dX11_resting_0 (by decide) ?_
  refine V_istore_n (pc := 1) (i := 1) dX11_resting_1 rfl (by decide) rfl ?_
  refine V_iconst (pc := 2) (v := 0) dX11_resting_2 (by decide) ?_
  refine V_istore_n (pc := 3) (i := 2) dX11_resting_3 rfl (by decide) rfl ?_
  have loop : ∀ (m i : Nat) (x : Int32), m + i = 1024 → V G mX11_resting d 0 0 (xE (some (.int (cntP (fun i => decide (cF S (s + 2) n (S 17 4) (nI i) = -1)) m i x))) (wH G b tbC (S) h0)) 4 [some (.ref (b + 0)), some (.int x), some (.int (nI i))] [] (wH G b tbC (S) h0) := by
    intro m
    induction m with
    | zero =>
      intro i x hm
      refine V_iload_n (pc := 4) (i := 2) dX11_resting_4 rfl rfl ?_
      refine V_sipush (pc := 5) (v := 1024) dX11_resting_5 (by decide) ?_
      refine V_icmp_ge (pc := 8) 43 dX11_resting_8 rfl (fun c8 => ?_) (fun c8 => ?_)
      · refine V_iload_n (pc := 43) (i := 1) dX11_resting_43 rfl rfl ?_
        exact VE_iret (pc := 44) dX11_resting_44 rfl rfl rfl
      · exact absurd (by rw [show i = 1024 by omega]; decide) c8
    | succ m ih =>
      intro i x hm
      rw [cntP]
      refine V_iload_n (pc := 4) (i := 2) dX11_resting_4 rfl rfl ?_
      refine V_sipush (pc := 5) (v := 1024) dX11_resting_5 (by decide) ?_
      refine V_icmp_ge (pc := 8) 43 dX11_resting_8 rfl (fun c8 => ?_) (fun c8 => ?_)
      · exact absurd c8 (nI_ge (b := 1024) (by omega) (by decide))
      · refine V_aload_n (pc := 11) (i := 0) dX11_resting_11 rfl rfl ?_
        refine VW_getWs (pc := 12) dX11_resting_12 fX11_68 (by first | assumption | rfl) rfl (by first | assumption | (simp (disch := omega) only [up2_row, up2_col, up2_same, upR_row]; assumption)) ?_
        refine VW_getR (pc := 15) dX11_resting_15 fX11_123 (by first | assumption | rfl) rfl ?_
        refine V_iload_n (pc := 18) (i := 2) dX11_resting_18 rfl rfl ?_
        refine V_aload_n (pc := 19) (i := 0) dX11_resting_19 rfl rfl ?_
        refine VW_getR (pc := 20) dX11_resting_20 fX11_19 (by first | assumption | rfl) rfl ?_
        refine VW_getI (pc := 23) dX11_resting_23 fX11_139 (by first | assumption | rfl) rfl ?_
        refine V_iconst (pc := 26) (v := 0) dX11_resting_26 (by decide) ?_
        refine V_V3i (pc := 27) dX11_resting_27 cX11_274 (by first | assumption | rfl) (X1_firstBringing (i0 := 0) (d := 1) a2 hn h12 (Nat.zero_le _) (by omega) _ _) (Nat.le_of_ble_eq_true rfl) (by omega) (Nat.le_of_ble_eq_true rfl) ?_
        refine V_iconst (pc := 30) (v := -1) dX11_resting_30 (by decide) ?_
        refine V_icmp_ne (pc := 31) 37 dX11_resting_31 rfl (fun c31 => ?_) (fun c31 => ?_)
        · rw [if_neg (by simp only [decide_eq_true_eq]; exact c31)]
          refine V_iinc (pc := 37) dX11_resting_37 (by decide) rfl rfl (iincN (n := 1) (by decide)) ?_
          refine V_goto (pc := 40) 4 dX11_resting_40 rfl ?_
          exact ih (i + 1) _ (by omega)
        · rw [if_pos (by simp only [decide_eq_true_eq]; exact c31)]
          refine V_iinc (pc := 34) dX11_resting_34 (by decide) rfl rfl (v := x + 1) rfl ?_
          refine V_iinc (pc := 37) dX11_resting_37 (by decide) rfl rfl (iincN (n := 1) (by decide)) ?_
          refine V_goto (pc := 40) 4 dX11_resting_40 rfl ?_
          exact ih (i + 1) _ (by omega)
  exact loop 1024 0 _ rfl
theorem X11_sets {s n pp r bb : Nat} (ci : RI S s n pp r bb) {t : Nat} (ht : t < 10) (hb : gB G ≤ b) (hd : 4 ≤ d) : VM G mX11_sets d 0 0 [.ref (b + 0), .int (nI t)] (xE (some (.int (cntS (fillS (cF S (s + 2) n (S 17 4)) (S (s + 5)) 1024 (S 41)) (nI t) 1024 0 0))) (wH G b tbC (upR S 41 (fillS (cF S (s + 2) n (S 17 4)) (S (s + 5)) 1024 (S 41))) h0)) (wH G b tbC S h0) := by
  obtain ⟨hsh, hn, h12, hg, hp, h8, hr, h7, hbb, hb8⟩ := id ci
  have hs := shC_or (S 0 9)
  have hS := tbC_shore (S 0 9)
  rw [hsh] at hs hS
  obtain ⟨a0, a1, a2, a3, a4, a5, a6, a7⟩ := id hS
  obtain ⟨i0, i1, i2, i3⟩ := id a2
  obtain ⟨r0, r1, r2⟩ := id a3
  refine VM_start (ls := [some (.ref (b + 0)), some (.int (nI t))]) rfl ?_
  -- %m X11_sets
  refine V_iload_n (pc := 0) (i := 1) dX11_sets_0 rfl rfl ?_
  refine V_S1v (pc := 1) dX11_sets_1 cX11_161 (X11_mustBeThing_ok (d := 0) ht) (Nat.le_of_ble_eq_true rfl) (by omega) (Nat.le_of_ble_eq_true rfl) ?_
  refine V_aload_n (pc := 4) (i := 0) dX11_sets_4 rfl rfl ?_
  refine VW_getR (pc := 5) dX11_sets_5 fX11_51 (by first | assumption | rfl) rfl ?_
  refine V_aload_n (pc := 8) (i := 0) dX11_sets_8 rfl rfl ?_
  refine VW_getWs (pc := 9) dX11_sets_9 fX11_68 (by first | assumption | rfl) rfl (by first | assumption | (simp (disch := omega) only [up2_row, up2_col, up2_same, upR_row]; assumption)) ?_
  refine VW_getR (pc := 12) dX11_sets_12 fX11_123 (by first | assumption | rfl) rfl ?_
  refine V_aload_n (pc := 15) (i := 0) dX11_sets_15 rfl rfl ?_
  refine VW_getR (pc := 16) dX11_sets_16 fX11_19 (by first | assumption | rfl) rfl ?_
  refine VW_getI (pc := 19) dX11_sets_19 fX11_139 (by first | assumption | rfl) rfl ?_
  refine V_iload_n (pc := 22) (i := 1) dX11_sets_22 rfl rfl ?_
  refine V_V3i (pc := 23) dX11_sets_23 cX11_277 (by first | assumption | rfl) (X6_howManyBring (d := 3) a2 (by omega) hn h12 hg _ _ hb (by omega)) (Nat.le_of_ble_eq_true rfl) (by omega) (Nat.le_of_ble_eq_true rfl) ?_
  exact VE_iret (pc := 26) dX11_sets_26 rfl rfl rfl
theorem X11_toDeny {s n pp r bb : Nat} (ci : RI S s n pp r bb) {a t : Nat} (ha : a ≤ 1023) (ht : t < 10) (hb : gB G ≤ b) (hd : 3 ≤ d) : VM G mX11_toDeny d 0 0 [.ref (b + 0), .int (nI a), .int (nI t)] (xE (some (.int (bstF (fun _ => false) (fun i => !hasB (allF (cF S (s + 2) n (S 17 4 ||| nI i)) (S (s + 5)) 10 (nI a)) (nI t)) (2 ^ n) 0 (-1) 13))) (wH G b tbC (S) h0)) (wH G b tbC S h0) := by
  obtain ⟨hsh, hn, h12, hg, hp, h8, hr, h7, hbb, hb8⟩ := id ci
  have hs := shC_or (S 0 9)
  have hS := tbC_shore (S 0 9)
  rw [hsh] at hs hS
  obtain ⟨a0, a1, a2, a3, a4, a5, a6, a7⟩ := id hS
  obtain ⟨i0, i1, i2, i3⟩ := id a2
  obtain ⟨r0, r1, r2⟩ := id a3
  refine VM_start (ls := [some (.ref (b + 0)), some (.int (nI a)), some (.int (nI t)), none, none, none, none]) rfl ?_
  -- %m X11_toDeny
  refine V_iload_n (pc := 0) (i := 2) dX11_toDeny_0 rfl rfl ?_
  refine V_S1v (pc := 1) dX11_toDeny_1 cX11_161 (X11_mustBeThing_ok (d := 0) ht) (Nat.le_of_ble_eq_true rfl) (by omega) (Nat.le_of_ble_eq_true rfl) ?_
  refine V_iload_n (pc := 4) (i := 1) dX11_toDeny_4 rfl rfl ?_
  refine V_iconst (pc := 5) (v := 0) dX11_toDeny_5 (by decide) ?_
  refine V_sipush (pc := 6) (v := 1023) dX11_toDeny_6 (by decide) ?_
  refine V_S3v (pc := 9) dX11_toDeny_9 cX11_94 (within_ok (l := 0) (m := 1023) (d := 0) (Nat.zero_le _) ha (by decide)) (Nat.le_of_ble_eq_true rfl) (by omega) (Nat.le_of_ble_eq_true rfl) ?_
  refine V_iconst (pc := 12) (v := -1) dX11_toDeny_12 (by decide) ?_
  refine V_istore_n (pc := 13) (i := 3) dX11_toDeny_13 rfl (by decide) rfl ?_
  refine V_bipush (pc := 14) (v := 13) dX11_toDeny_14 (by decide) ?_
  refine V_istore (pc := 16) dX11_toDeny_16 (by decide) rfl ?_
  refine V_iconst (pc := 18) (v := 1) dX11_toDeny_18 (by decide) ?_
  refine V_aload_n (pc := 19) (i := 0) dX11_toDeny_19 rfl rfl ?_
  refine VW_getWs (pc := 20) dX11_toDeny_20 fX11_68 (by first | assumption | rfl) rfl (by first | assumption | (simp (disch := omega) only [up2_row, up2_col, up2_same, upR_row]; assumption)) ?_
  refine VW_getR (pc := 23) dX11_toDeny_23 fX11_123 (by first | assumption | rfl) rfl ?_
  refine VW_getI (pc := 26) dX11_toDeny_26 fX11_127 (by first | assumption | rfl) rfl ?_
  rw [hn]
  refine V_ishl (pc := 29) dX11_toDeny_29 ?_
  rw [st1 (by omega)]
  have hN : 2 ^ n ≤ 4096 := Nat.pow_le_pow_right (n := 2) (by decide) h12
  generalize 2 ^ n = N at hN
  refine V_istore (pc := 30) dX11_toDeny_30 (by decide) rfl ?_
  refine V_iconst (pc := 32) (v := 0) dX11_toDeny_32 (by decide) ?_
  refine V_istore (pc := 33) dX11_toDeny_33 (by decide) rfl ?_
  have loop : ∀ (m i : Nat) (z : Int32) (f : Int32), m + i = N → V G mX11_toDeny d 0 0 (xE (some (.int (bstF (fun _ => false) (fun i => !hasB (allF (cF S (s + 2) n (S 17 4 ||| nI i)) (S (s + 5)) 10 (nI a)) (nI t)) m i z f))) (wH G b tbC (S) h0)) 35 [some (.ref (b + 0)), some (.int (nI a)), some (.int (nI t)), some (.int z), some (.int f), some (.int (nI N)), some (.int (nI i))] [] (wH G b tbC (S) h0) := by
    intro m
    induction m with
    | zero =>
      intro i z f hm
      refine V_iload (pc := 35) dX11_toDeny_35 rfl ?_
      refine V_iload (pc := 37) dX11_toDeny_37 rfl ?_
      refine V_icmp_ge (pc := 39) 99 dX11_toDeny_39 rfl (fun c39 => ?_) (fun c39 => ?_)
      · refine V_iload_n (pc := 99) (i := 3) dX11_toDeny_99 rfl rfl ?_
        exact VE_iret (pc := 100) dX11_toDeny_100 rfl rfl rfl
      · exact absurd (by rw [show i = N by omega]; exact nI_le (by omega) (by omega)) c39
    | succ m ih =>
      intro i z f hm
      rw [bstF]
      refine V_iload (pc := 35) dX11_toDeny_35 rfl ?_
      refine V_iload (pc := 37) dX11_toDeny_37 rfl ?_
      refine V_icmp_ge (pc := 39) 99 dX11_toDeny_39 rfl (fun c39 => ?_) (fun c39 => ?_)
      · exact absurd c39 (nI_ge (by omega) (by omega))
      · refine V_iload (pc := 42) dX11_toDeny_42 rfl ?_
        refine V_S1i (pc := 44) dX11_toDeny_44 cX11_257 (J6_bitCount (d := 0) _) (Nat.le_of_ble_eq_true rfl) (by omega) (Nat.le_of_ble_eq_true rfl) ?_
        refine V_iload (pc := 47) dX11_toDeny_47 rfl ?_
        refine V_icmp_lt (pc := 49) 55 dX11_toDeny_49 rfl (fun c49 => ?_) (fun c49 => ?_)
        · rw [if_neg (fun q => q.elim (fun q => absurd q (by decide)) (Int32.not_le.mpr c49))]
          refine V_iload_n (pc := 55) (i := 2) dX11_toDeny_55 rfl rfl ?_
          refine V_aload_n (pc := 56) (i := 0) dX11_toDeny_56 rfl rfl ?_
          refine VW_getWs (pc := 57) dX11_toDeny_57 fX11_68 (by first | assumption | rfl) rfl (by first | assumption | (simp (disch := omega) only [up2_row, up2_col, up2_same, upR_row]; assumption)) ?_
          refine VW_getR (pc := 60) dX11_toDeny_60 fX11_123 (by first | assumption | rfl) rfl ?_
          refine V_iload_n (pc := 63) (i := 1) dX11_toDeny_63 rfl rfl ?_
          refine V_aload_n (pc := 64) (i := 0) dX11_toDeny_64 rfl rfl ?_
          refine VW_getR (pc := 65) dX11_toDeny_65 fX11_19 (by first | assumption | rfl) rfl ?_
          refine VW_getI (pc := 68) dX11_toDeny_68 fX11_139 (by first | assumption | rfl) rfl ?_
          refine V_iload (pc := 71) dX11_toDeny_71 rfl ?_
          refine V_ior (pc := 73) dX11_toDeny_73 ?_
          refine V_V2i (pc := 74) dX11_toDeny_74 cX11_262 (by first | assumption | rfl) (X1_allFrom (d := 2) a2 hn h12 (by omega) _ _) (Nat.le_of_ble_eq_true rfl) (by omega) (Nat.le_of_ble_eq_true rfl) ?_
          refine V_S2i (pc := 77) dX11_toDeny_77 cX11_182 (X11_isIn (d := 0) _ _) (Nat.le_of_ble_eq_true rfl) (by omega) (Nat.le_of_ble_eq_true rfl) ?_
          refine V_if_ne (pc := 80) 93 dX11_toDeny_80 rfl (fun c80 => ?_) (fun c80 => ?_)
          · rw [if_neg (by simp [b2i_n0.mp c80])]
            refine V_iinc (pc := 93) dX11_toDeny_93 (by decide) rfl rfl (iincN (n := 1) (by decide)) ?_
            refine V_goto (pc := 96) 35 dX11_toDeny_96 rfl ?_
            exact ih (i + 1) _ _ (by omega)
          · rw [if_pos (by simp [b2i_0.mp c80])]
            refine V_iload (pc := 83) dX11_toDeny_83 rfl ?_
            refine V_istore_n (pc := 85) (i := 3) dX11_toDeny_85 rfl (by decide) rfl ?_
            refine V_iload (pc := 86) dX11_toDeny_86 rfl ?_
            refine V_S1i (pc := 88) dX11_toDeny_88 cX11_257 (J6_bitCount (d := 0) _) (Nat.le_of_ble_eq_true rfl) (by omega) (Nat.le_of_ble_eq_true rfl) ?_
            refine V_istore (pc := 91) dX11_toDeny_91 (by decide) rfl ?_
            refine V_iinc (pc := 93) dX11_toDeny_93 (by decide) rfl rfl (iincN (n := 1) (by decide)) ?_
            refine V_goto (pc := 96) 35 dX11_toDeny_96 rfl ?_
            exact ih (i + 1) _ _ (by omega)
        · rw [if_pos (Or.inr (Int32.not_lt.mp c49))]
          refine V_goto (pc := 52) 93 dX11_toDeny_52 rfl ?_
          refine V_iinc (pc := 93) dX11_toDeny_93 (by decide) rfl rfl (iincN (n := 1) (by decide)) ?_
          refine V_goto (pc := 96) 35 dX11_toDeny_96 rfl ?_
          exact ih (i + 1) _ _ (by omega)
  exact loop N 0 _ _ rfl
end Face3
