/-! ===== the face: what is there, acts ===== -/
section Face1
variable {G : xG} {d : Nat} {b : Nat} {S T : Nat → Nat → Int32} {h0 h : xH}
/-- the class's cells at rest: the shore s has n IFS, pp PEOPLE, a rule of r codes; the bridge bears bb -/
def RI (S : Nat → Nat → Int32) (s n pp r bb : Nat) : Prop := shC (S 0 9) = s ∧ S (s + 2) 4 = nI n ∧ n ≤ 12 ∧ GvOk (S (s + 5)) n ∧ S s 7 = nI pp ∧ pp ≤ 8 ∧ S (s + 6) 2 = nI r ∧ r ≤ 700 ∧ S 17 5 = nI bb ∧ bb ≤ 8
/-- the walk's cells while it goes -/
def WI (T : Nat → Nat → Int32) (s r pp bb : Nat) : Prop := shC (T 57 6) = s ∧ T s 7 = nI pp ∧ T (s + 6) 2 = nI r ∧ T 58 5 = nI bb
/-- nothing but the walk's cells and the rule's stack differ -/
def Wsm (s : Nat) (S T : Nat → Nat → Int32) : Prop := ∀ k, k ≠ s + 8 → (k < 57 ∨ 67 < k) → T k = S k
theorem Wsm.rfl' {s : Nat} : Wsm s S S := fun _ _ _ => rfl
theorem Wsm.trans {s : Nat} {U : Nat → Nat → Int32} (a : Wsm s S T) (c : Wsm s T U) : Wsm s S U := fun k h1 h2 => (c k h1 h2).trans (a k h1 h2)
theorem wkSettles_off {s n k : Nat} (h : k < 63 ∨ 66 < k) : ∀ (m q : Nat) (S : Nat → Nat → Int32), wkSettles s n m q S k = S k := by
  intro m
  induction m with
  | zero => intro q S; rfl
  | succ m ih => intro q S; rw [wkSettles, ih, wkSettle_off h]
theorem wkBegin_off {x : Int32} {n pp k : Nat} (h : k < 57 ∨ 66 < k) : wkBegin S x n pp k = S k := by
  rw [wkBegin, wkSettles_off (by omega), stCp_off (by omega), up2_row (by omega), up2_row (by omega)]
theorem wkStep_off {s r pp bb k : Nat} (h1 : k < 57 ∨ 67 < k) (h6 : k ≠ s + 8) : wkStep T s r pp bb k = T k := by
  rw [wkStep, up2_row (by omega), wkPers_off (by omega) (by omega), wkGo, up2_row (by omega), wkWho2, up2_row (by omega), wkWho_off (by omega) h6]
theorem wkStep_sm {s r pp bb : Nat} : Wsm s T (wkStep T s r pp bb) := fun k h1 h2 => wkStep_off h2 h1
theorem wkBegin_sm {s n pp : Nat} {x : Int32} : Wsm s S (wkBegin S x n pp) := fun k _ h2 => wkBegin_off (by omega)
theorem up2_sm {s k j : Nat} {x : Int32} (h1 : ¬ k < 57) (h2 : ¬ 67 < k) : Wsm s S (up2 S k j x) := fun k' _ h4 => up2_row (by omega)
theorem RI.sm {s n pp r bb : Nat} (ci : RI S s n pp r bb) (hs : s = 4 ∨ s = 44) (w : Wsm s S T) : RI T s n pp r bb := by
  obtain ⟨hsh, hn, h12, hg, hp, h8, hr, h7, hbb, hb8⟩ := ci
  exact ⟨by rw [w 0 (by omega) (by omega)]; exact hsh, by rw [w (s + 2) (by omega) (by omega)]; exact hn, h12, by rw [w (s + 5) (by omega) (by omega)]; exact hg, by rw [w s (by omega) (by omega)]; exact hp, h8, by rw [w (s + 6) (by omega) (by omega)]; exact hr, h7, by rw [w 17 (by omega) (by omega)]; exact hbb, hb8⟩
theorem wkStep_WI {s r pp bb : Nat} (hs : s = 4 ∨ s = 44) (w : WI T s r pp bb) : WI (wkStep T s r pp bb) s r pp bb := by
  obtain ⟨w1, w2, w3, w4⟩ := w
  refine ⟨?_, by rw [wkStep_off (by omega) (by omega)]; exact w2, by rw [wkStep_off (by omega) (by omega)]; exact w3, ?_⟩
  · rw [wkStep, up2_row (by omega), wkPers_off (by omega) (by omega), wkGo, up2_row (by omega), wkWho2, up2_col (by omega), wkWho_off (by omega) (by omega)]
    exact w1
  · rw [wkStep, up2_col (by omega), wkPers_off (by omega) (by omega), wkGo, up2_col (by omega), wkWho2, up2_row (by omega), wkWho_off (by omega) (by omega)]
    exact w4
theorem wkBegin_WI {s n pp r bb : Nat} (hs : s = 4 ∨ s = 44) (ci : RI S s n pp r bb) : WI (wkBegin S (S 0 9) n pp) s r pp bb := by
  obtain ⟨hsh, hn, h12, hg, hp, h8, hr, h7, hbb, hb8⟩ := ci
  refine ⟨?_, by rw [wkBegin_off (by omega)]; exact hp, by rw [wkBegin_off (by omega)]; exact hr, ?_⟩
  · rw [wkBegin, wkSettles_off (by omega), stCp_off (by omega), up2_col (by omega), up2_same]
    exact hsh
  · rw [wkBegin, wkSettles_off (by omega), stCp, up2_col (by omega), up2_col (by omega), up2_same, up2_row (by omega), up2_row (by omega)]
    exact hbb
theorem X10_begin2 {x : Int32} {s n pp : Nat} (hx : shC x = s) (hn : S (s + 2) 4 = nI n) (h12 : n ≤ 12) (hp : S s 7 = nI pp) (h8 : pp ≤ 8) (hb : gB G ≤ b) (hd : 5 ≤ d) : VM G mX10_begin d 0 0 [.ref (b + 57), .ref (b + s), .ref (b + 17)] (xE none (wH G b tbC (wkBegin S x n pp) h0)) (wH G b tbC S h0) := by
  subst hx
  exact X10_begin hn h12 hp h8 hb hd
theorem within_ok {k l m : Nat} (h1 : l ≤ k) (h2 : k ≤ m) (hm : m < 2 ^ 31) : VM G mX11_mustBeWithin d 0 0 [.int (nI k), .int (nI l), .int (nI m)] (xE none h) h := X11_mustBeWithin_ok (nI_nlt h1 (by omega)) (nI_nlt h2 hm)
theorem actKeep_off {k s o n k' : Nat} (h1 : k' ≠ k) (h2 : k' ≠ k + 1) : actKeep S k s o n k' = S k' := by
  unfold actKeep
  split <;> rw [up2_row h1, stWr_off h2]
theorem stRd_off {k r a k' : Nat} (h : k' < k ∨ k + 4 < k') : stRd S k r a k' = S k' := by
  simp (disch := omega) only [stRd, up2_row, upR_row]
theorem X11_refuseAct (hb : gB G ≤ b) : VM G mX11_refuseAct d 0 0 [.ref (b + 0)] (xE (some (.int (-1))) (wH G b tbC (up2 S 27 1 (S 27 1 + 1)) h0)) (wH G b tbC S h0) := by
  refine VM_start (ls := [some (.ref (b + 0))]) rfl ?_
  -- %m X11_refuseAct
  refine V_aload_n (pc := 0) (i := 0) dX11_refuseAct_0 rfl rfl ?_
  refine VW_getR (pc := 1) dX11_refuseAct_1 fX11_37 (by first | assumption | rfl) rfl ?_
  refine V_iconst (pc := 4) (v := 1) dX11_refuseAct_4 (by decide) ?_
  refine V_dup2 (pc := 5) dX11_refuseAct_5 rfl rfl ?_
  refine VW_ialdN (pc := 6) dX11_refuseAct_6 (by first | assumption | rfl) (j := 1) rfl (by decide) (by first | decide | omega) ?_
  refine V_iconst (pc := 7) (v := 1) dX11_refuseAct_7 (by decide) ?_
  refine V_iadd (pc := 8) dX11_refuseAct_8 ?_
  refine VW_iastN (pc := 9) dX11_refuseAct_9 (by first | assumption | rfl) (by assumption) (j := 1) rfl (by decide) (by first | decide | omega) ?_
  refine V_iconst (pc := 10) (v := -1) dX11_refuseAct_10 (by decide) ?_
  exact VE_iret (pc := 11) dX11_refuseAct_11 rfl rfl rfl
theorem X11_fault {s n pp r bb : Nat} (ci : RI S s n pp r bb) (hb : gB G ≤ b) (hd : 0 ≤ d) : VM G mX11_fault d 0 0 [.ref (b + 0)] (xE (some (.int (S 0 10))) (wH G b tbC (S) h0)) (wH G b tbC S h0) := by
  obtain ⟨hsh, hn, h12, hg, hp, h8, hr, h7, hbb, hb8⟩ := id ci
  have hs := shC_or (S 0 9)
  have hS := tbC_shore (S 0 9)
  rw [hsh] at hs hS
  obtain ⟨a0, a1, a2, a3, a4, a5, a6, a7⟩ := id hS
  obtain ⟨i0, i1, i2, i3⟩ := id a2
  obtain ⟨r0, r1, r2⟩ := id a3
  refine VM_start (ls := [some (.ref (b + 0))]) rfl ?_
  -- %m X11_fault
  refine V_aload_n (pc := 0) (i := 0) dX11_fault_0 rfl rfl ?_
  refine VW_getI (pc := 1) dX11_fault_1 fX11_58 (by first | assumption | rfl) rfl ?_
  exact VE_iret (pc := 4) dX11_fault_4 rfl rfl rfl
theorem X11_count_0 {s n pp r bb : Nat} (ci : RI S s n pp r bb) (hb : gB G ≤ b) (hd : 4 ≤ d) : VM G mX11_count d 0 0 [.ref (b + 0), .int 0] (xE (some (.int (S s 7))) (wH G b tbC (S) h0)) (wH G b tbC S h0) := by
  obtain ⟨hsh, hn, h12, hg, hp, h8, hr, h7, hbb, hb8⟩ := id ci
  have hs := shC_or (S 0 9)
  have hS := tbC_shore (S 0 9)
  rw [hsh] at hs hS
  obtain ⟨a0, a1, a2, a3, a4, a5, a6, a7⟩ := id hS
  obtain ⟨i0, i1, i2, i3⟩ := id a2
  obtain ⟨r0, r1, r2⟩ := id a3
  refine VM_start (ls := [some (.ref (b + 0)), some (.int 0)]) rfl ?_
  -- %m X11_count
  refine V_iload_n (pc := 0) (i := 1) dX11_count_0 rfl rfl ?_
  refine V_tableIn (pc := 1) (off := 75) 76 dX11_count_1 (by decide) (by decide) (by decide) rfl ?_
  refine V_aload_n (pc := 76) (i := 0) dX11_count_76 rfl rfl ?_
  refine VW_getWs (pc := 77) dX11_count_77 fX11_68 (by first | assumption | rfl) rfl (by first | assumption | (simp (disch := omega) only [up2_row, up2_col, up2_same, upR_row]; assumption)) ?_
  refine VW_getI (pc := 80) dX11_count_80 fX11_120 (by first | assumption | rfl) rfl ?_
  exact VE_iret (pc := 83) dX11_count_83 rfl rfl rfl
theorem X11_count_1 {s n pp r bb : Nat} (ci : RI S s n pp r bb) (hb : gB G ≤ b) (hd : 4 ≤ d) : VM G mX11_count d 0 0 [.ref (b + 0), .int 1] (xE (some (.int (S (s + 2) 4))) (wH G b tbC (S) h0)) (wH G b tbC S h0) := by
  obtain ⟨hsh, hn, h12, hg, hp, h8, hr, h7, hbb, hb8⟩ := id ci
  have hs := shC_or (S 0 9)
  have hS := tbC_shore (S 0 9)
  rw [hsh] at hs hS
  obtain ⟨a0, a1, a2, a3, a4, a5, a6, a7⟩ := id hS
  obtain ⟨i0, i1, i2, i3⟩ := id a2
  obtain ⟨r0, r1, r2⟩ := id a3
  refine VM_start (ls := [some (.ref (b + 0)), some (.int 1)]) rfl ?_
  -- %m X11_count
  refine V_iload_n (pc := 0) (i := 1) dX11_count_0 rfl rfl ?_
  refine V_tableIn (pc := 1) (off := 83) 84 dX11_count_1 (by decide) (by decide) (by decide) rfl ?_
  refine V_aload_n (pc := 84) (i := 0) dX11_count_84 rfl rfl ?_
  refine VW_getWs (pc := 85) dX11_count_85 fX11_68 (by first | assumption | rfl) rfl (by first | assumption | (simp (disch := omega) only [up2_row, up2_col, up2_same, upR_row]; assumption)) ?_
  refine VW_getR (pc := 88) dX11_count_88 fX11_123 (by first | assumption | rfl) rfl ?_
  refine VW_getI (pc := 91) dX11_count_91 fX11_127 (by first | assumption | rfl) rfl ?_
  exact VE_iret (pc := 94) dX11_count_94 rfl rfl rfl
theorem X11_count_2 {s n pp r bb : Nat} (ci : RI S s n pp r bb) (hb : gB G ≤ b) (hd : 4 ≤ d) : VM G mX11_count d 0 0 [.ref (b + 0), .int 2] (xE (some (.int (S 17 5))) (wH G b tbC (S) h0)) (wH G b tbC S h0) := by
  obtain ⟨hsh, hn, h12, hg, hp, h8, hr, h7, hbb, hb8⟩ := id ci
  have hs := shC_or (S 0 9)
  have hS := tbC_shore (S 0 9)
  rw [hsh] at hs hS
  obtain ⟨a0, a1, a2, a3, a4, a5, a6, a7⟩ := id hS
  obtain ⟨i0, i1, i2, i3⟩ := id a2
  obtain ⟨r0, r1, r2⟩ := id a3
  refine VM_start (ls := [some (.ref (b + 0)), some (.int 2)]) rfl ?_
  -- %m X11_count
  refine V_iload_n (pc := 0) (i := 1) dX11_count_0 rfl rfl ?_
  refine V_tableIn (pc := 1) (off := 94) 95 dX11_count_1 (by decide) (by decide) (by decide) rfl ?_
  refine V_aload_n (pc := 95) (i := 0) dX11_count_95 rfl rfl ?_
  refine VW_getR (pc := 96) dX11_count_96 fX11_19 (by first | assumption | rfl) rfl ?_
  refine VW_getI (pc := 99) dX11_count_99 fX11_130 (by first | assumption | rfl) rfl ?_
  exact VE_iret (pc := 102) dX11_count_102 rfl rfl rfl
theorem X11_count_3 {s n pp r bb : Nat} (ci : RI S s n pp r bb) (hb : gB G ≤ b) (hd : 4 ≤ d) : VM G mX11_count d 0 0 [.ref (b + 0), .int 3] (xE (some (.int (S 17 6))) (wH G b tbC (S) h0)) (wH G b tbC S h0) := by
  obtain ⟨hsh, hn, h12, hg, hp, h8, hr, h7, hbb, hb8⟩ := id ci
  have hs := shC_or (S 0 9)
  have hS := tbC_shore (S 0 9)
  rw [hsh] at hs hS
  obtain ⟨a0, a1, a2, a3, a4, a5, a6, a7⟩ := id hS
  obtain ⟨i0, i1, i2, i3⟩ := id a2
  obtain ⟨r0, r1, r2⟩ := id a3
  refine VM_start (ls := [some (.ref (b + 0)), some (.int 3)]) rfl ?_
  -- %m X11_count
  refine V_iload_n (pc := 0) (i := 1) dX11_count_0 rfl rfl ?_
  refine V_tableIn (pc := 1) (off := 102) 103 dX11_count_1 (by decide) (by decide) (by decide) rfl ?_
  refine V_aload_n (pc := 103) (i := 0) dX11_count_103 rfl rfl ?_
  refine VW_getR (pc := 104) dX11_count_104 fX11_19 (by first | assumption | rfl) rfl ?_
  refine VW_getI (pc := 107) dX11_count_107 fX11_133 (by first | assumption | rfl) rfl ?_
  exact VE_iret (pc := 110) dX11_count_110 rfl rfl rfl
theorem X11_count_4 {s n pp r bb : Nat} (ci : RI S s n pp r bb) (hb : gB G ≤ b) (hd : 4 ≤ d) : VM G mX11_count d 0 0 [.ref (b + 0), .int 4] (xE (some (.int (S 17 7))) (wH G b tbC (S) h0)) (wH G b tbC S h0) := by
  obtain ⟨hsh, hn, h12, hg, hp, h8, hr, h7, hbb, hb8⟩ := id ci
  have hs := shC_or (S 0 9)
  have hS := tbC_shore (S 0 9)
  rw [hsh] at hs hS
  obtain ⟨a0, a1, a2, a3, a4, a5, a6, a7⟩ := id hS
  obtain ⟨i0, i1, i2, i3⟩ := id a2
  obtain ⟨r0, r1, r2⟩ := id a3
  refine VM_start (ls := [some (.ref (b + 0)), some (.int 4)]) rfl ?_
  -- %m X11_count
  refine V_iload_n (pc := 0) (i := 1) dX11_count_0 rfl rfl ?_
  refine V_tableIn (pc := 1) (off := 110) 111 dX11_count_1 (by decide) (by decide) (by decide) rfl ?_
  refine V_aload_n (pc := 111) (i := 0) dX11_count_111 rfl rfl ?_
  refine VW_getR (pc := 112) dX11_count_112 fX11_19 (by first | assumption | rfl) rfl ?_
  refine VW_getI (pc := 115) dX11_count_115 fX11_136 (by first | assumption | rfl) rfl ?_
  exact VE_iret (pc := 118) dX11_count_118 rfl rfl rfl
theorem X11_count_5 {s n pp r bb : Nat} (ci : RI S s n pp r bb) (hb : gB G ≤ b) (hd : 4 ≤ d) : VM G mX11_count d 0 0 [.ref (b + 0), .int 5] (xE (some (.int (S 17 4))) (wH G b tbC (S) h0)) (wH G b tbC S h0) := by
  obtain ⟨hsh, hn, h12, hg, hp, h8, hr, h7, hbb, hb8⟩ := id ci
  have hs := shC_or (S 0 9)
  have hS := tbC_shore (S 0 9)
  rw [hsh] at hs hS
  obtain ⟨a0, a1, a2, a3, a4, a5, a6, a7⟩ := id hS
  obtain ⟨i0, i1, i2, i3⟩ := id a2
  obtain ⟨r0, r1, r2⟩ := id a3
  refine VM_start (ls := [some (.ref (b + 0)), some (.int 5)]) rfl ?_
  -- %m X11_count
  refine V_iload_n (pc := 0) (i := 1) dX11_count_0 rfl rfl ?_
  refine V_tableIn (pc := 1) (off := 118) 119 dX11_count_1 (by decide) (by decide) (by decide) rfl ?_
  refine V_aload_n (pc := 119) (i := 0) dX11_count_119 rfl rfl ?_
  refine VW_getR (pc := 120) dX11_count_120 fX11_19 (by first | assumption | rfl) rfl ?_
  refine VW_getI (pc := 123) dX11_count_123 fX11_139 (by first | assumption | rfl) rfl ?_
  exact VE_iret (pc := 126) dX11_count_126 rfl rfl rfl
theorem X11_count_6 {s n pp r bb : Nat} (ci : RI S s n pp r bb) (hb : gB G ≤ b) (hd : 4 ≤ d) : VM G mX11_count d 0 0 [.ref (b + 0), .int 6] (xE (some (.int (idlF (cFf S (s + 2) n (S 17 4)) (S (s + 5)) (fillS (cF S (s + 2) n (S 17 4)) (S (s + 5)) 1024 (S 41)) 1024 0 ((1 <<< (nI n &&& 31) - 1) &&& (S 17 4 ^^^ -1))))) (wH G b tbC (upR S 41 (fillS (cF S (s + 2) n (S 17 4)) (S (s + 5)) 1024 (S 41))) h0)) (wH G b tbC S h0) := by
  obtain ⟨hsh, hn, h12, hg, hp, h8, hr, h7, hbb, hb8⟩ := id ci
  have hs := shC_or (S 0 9)
  have hS := tbC_shore (S 0 9)
  rw [hsh] at hs hS
  obtain ⟨a0, a1, a2, a3, a4, a5, a6, a7⟩ := id hS
  obtain ⟨i0, i1, i2, i3⟩ := id a2
  obtain ⟨r0, r1, r2⟩ := id a3
  refine VM_start (ls := [some (.ref (b + 0)), some (.int 6)]) rfl ?_
  -- %m X11_count
  refine V_iload_n (pc := 0) (i := 1) dX11_count_0 rfl rfl ?_
  refine V_tableIn (pc := 1) (off := 126) 127 dX11_count_1 (by decide) (by decide) (by decide) rfl ?_
  refine V_aload_n (pc := 127) (i := 0) dX11_count_127 rfl rfl ?_
  refine VW_getR (pc := 128) dX11_count_128 fX11_51 (by first | assumption | rfl) rfl ?_
  refine V_aload_n (pc := 131) (i := 0) dX11_count_131 rfl rfl ?_
  refine VW_getWs (pc := 132) dX11_count_132 fX11_68 (by first | assumption | rfl) rfl (by first | assumption | (simp (disch := omega) only [up2_row, up2_col, up2_same, upR_row]; assumption)) ?_
  refine VW_getR (pc := 135) dX11_count_135 fX11_123 (by first | assumption | rfl) rfl ?_
  refine V_aload_n (pc := 138) (i := 0) dX11_count_138 rfl rfl ?_
  refine VW_getR (pc := 139) dX11_count_139 fX11_19 (by first | assumption | rfl) rfl ?_
  refine VW_getI (pc := 142) dX11_count_142 fX11_139 (by first | assumption | rfl) rfl ?_
  refine V_V2i (pc := 145) dX11_count_145 cX11_142 (by first | assumption | rfl) (X6_idleIfs (d := 3) a2 (by omega) hn h12 hg _ hb (by omega)) (Nat.le_of_ble_eq_true rfl) (by omega) (Nat.le_of_ble_eq_true rfl) ?_
  exact VE_iret (pc := 148) dX11_count_148 rfl rfl rfl
theorem X11_count_7 {s n pp r bb : Nat} (ci : RI S s n pp r bb) (hb : gB G ≤ b) (hd : 4 ≤ d) : VM G mX11_count d 0 0 [.ref (b + 0), .int 7] (xE (some (.int (endF (S (s + 3)) (S 17 4) n 0 0 &&& (endF (fun i => 1 <<< (S (s + 5) i &&& 31)) (S 17 4) n 0 0 ^^^ -1)))) (wH G b tbC (S) h0)) (wH G b tbC S h0) := by
  obtain ⟨hsh, hn, h12, hg, hp, h8, hr, h7, hbb, hb8⟩ := id ci
  have hs := shC_or (S 0 9)
  have hS := tbC_shore (S 0 9)
  rw [hsh] at hs hS
  obtain ⟨a0, a1, a2, a3, a4, a5, a6, a7⟩ := id hS
  obtain ⟨i0, i1, i2, i3⟩ := id a2
  obtain ⟨r0, r1, r2⟩ := id a3
  refine VM_start (ls := [some (.ref (b + 0)), some (.int 7)]) rfl ?_
  -- %m X11_count
  refine V_iload_n (pc := 0) (i := 1) dX11_count_0 rfl rfl ?_
  refine V_tableIn (pc := 1) (off := 148) 149 dX11_count_1 (by decide) (by decide) (by decide) rfl ?_
  refine V_aload_n (pc := 149) (i := 0) dX11_count_149 rfl rfl ?_
  refine VW_getWs (pc := 150) dX11_count_150 fX11_68 (by first | assumption | rfl) rfl (by first | assumption | (simp (disch := omega) only [up2_row, up2_col, up2_same, upR_row]; assumption)) ?_
  refine VW_getR (pc := 153) dX11_count_153 fX11_123 (by first | assumption | rfl) rfl ?_
  refine V_aload_n (pc := 156) (i := 0) dX11_count_156 rfl rfl ?_
  refine VW_getR (pc := 157) dX11_count_157 fX11_19 (by first | assumption | rfl) rfl ?_
  refine VW_getI (pc := 160) dX11_count_160 fX11_139 (by first | assumption | rfl) rfl ?_
  refine V_V1i (pc := 163) dX11_count_163 cX11_146 (by first | assumption | rfl) (X1_endsOf (d := 1) a2 hn h12 (by omega) _) (Nat.le_of_ble_eq_true rfl) (by omega) (Nat.le_of_ble_eq_true rfl) ?_
  exact VE_iret (pc := 166) dX11_count_166 rfl rfl rfl
theorem X11_count_8 {s n pp r bb : Nat} (ci : RI S s n pp r bb) (hb : gB G ≤ b) (hd : 4 ≤ d) : VM G mX11_count d 0 0 [.ref (b + 0), .int 8] (xE (some (.int (ringF (fun t => stepF (fun x => ledF (S (s + 3)) (S (s + 5)) (S 17 4) x n 0 0) (nI t) 10 1 (1 <<< (nI t &&& 31))) 10 0 (-1)))) (wH G b tbC (S) h0)) (wH G b tbC S h0) := by
  obtain ⟨hsh, hn, h12, hg, hp, h8, hr, h7, hbb, hb8⟩ := id ci
  have hs := shC_or (S 0 9)
  have hS := tbC_shore (S 0 9)
  rw [hsh] at hs hS
  obtain ⟨a0, a1, a2, a3, a4, a5, a6, a7⟩ := id hS
  obtain ⟨i0, i1, i2, i3⟩ := id a2
  obtain ⟨r0, r1, r2⟩ := id a3
  refine VM_start (ls := [some (.ref (b + 0)), some (.int 8)]) rfl ?_
  -- %m X11_count
  refine V_iload_n (pc := 0) (i := 1) dX11_count_0 rfl rfl ?_
  refine V_tableIn (pc := 1) (off := 166) 167 dX11_count_1 (by decide) (by decide) (by decide) rfl ?_
  refine V_aload_n (pc := 167) (i := 0) dX11_count_167 rfl rfl ?_
  refine VW_getWs (pc := 168) dX11_count_168 fX11_68 (by first | assumption | rfl) rfl (by first | assumption | (simp (disch := omega) only [up2_row, up2_col, up2_same, upR_row]; assumption)) ?_
  refine VW_getR (pc := 171) dX11_count_171 fX11_123 (by first | assumption | rfl) rfl ?_
  refine V_aload_n (pc := 174) (i := 0) dX11_count_174 rfl rfl ?_
  refine VW_getR (pc := 175) dX11_count_175 fX11_19 (by first | assumption | rfl) rfl ?_
  refine VW_getI (pc := 178) dX11_count_178 fX11_139 (by first | assumption | rfl) rfl ?_
  refine V_V1i (pc := 181) dX11_count_181 cX11_149 (by first | assumption | rfl) (X1_shortestRing (d := 3) a2 hn h12 (by omega) _) (Nat.le_of_ble_eq_true rfl) (by omega) (Nat.le_of_ble_eq_true rfl) ?_
  exact VE_iret (pc := 184) dX11_count_184 rfl rfl rfl
theorem X11_count_9 {s n pp r bb : Nat} (ci : RI S s n pp r bb) (hb : gB G ≤ b) (hd : 4 ≤ d) : VM G mX11_count d 0 0 [.ref (b + 0), .int 9] (xE (some (.int (S 22 2))) (wH G b tbC (S) h0)) (wH G b tbC S h0) := by
  obtain ⟨hsh, hn, h12, hg, hp, h8, hr, h7, hbb, hb8⟩ := id ci
  have hs := shC_or (S 0 9)
  have hS := tbC_shore (S 0 9)
  rw [hsh] at hs hS
  obtain ⟨a0, a1, a2, a3, a4, a5, a6, a7⟩ := id hS
  obtain ⟨i0, i1, i2, i3⟩ := id a2
  obtain ⟨r0, r1, r2⟩ := id a3
  refine VM_start (ls := [some (.ref (b + 0)), some (.int 9)]) rfl ?_
  -- %m X11_count
  refine V_iload_n (pc := 0) (i := 1) dX11_count_0 rfl rfl ?_
  refine V_tableIn (pc := 1) (off := 184) 185 dX11_count_1 (by decide) (by decide) (by decide) rfl ?_
  refine V_aload_n (pc := 185) (i := 0) dX11_count_185 rfl rfl ?_
  refine VW_getR (pc := 186) dX11_count_186 fX11_26 (by first | assumption | rfl) rfl ?_
  refine VW_getI (pc := 189) dX11_count_189 fX11_152 (by first | assumption | rfl) rfl ?_
  exact VE_iret (pc := 192) dX11_count_192 rfl rfl rfl
theorem X11_count_10 {s n pp r bb : Nat} (ci : RI S s n pp r bb) (hb : gB G ≤ b) (hd : 4 ≤ d) : VM G mX11_count d 0 0 [.ref (b + 0), .int 10] (xE (some (.int (S 24 3))) (wH G b tbC (S) h0)) (wH G b tbC S h0) := by
  obtain ⟨hsh, hn, h12, hg, hp, h8, hr, h7, hbb, hb8⟩ := id ci
  have hs := shC_or (S 0 9)
  have hS := tbC_shore (S 0 9)
  rw [hsh] at hs hS
  obtain ⟨a0, a1, a2, a3, a4, a5, a6, a7⟩ := id hS
  obtain ⟨i0, i1, i2, i3⟩ := id a2
  obtain ⟨r0, r1, r2⟩ := id a3
  refine VM_start (ls := [some (.ref (b + 0)), some (.int 10)]) rfl ?_
  -- %m X11_count
  refine V_iload_n (pc := 0) (i := 1) dX11_count_0 rfl rfl ?_
  refine V_tableIn (pc := 1) (off := 192) 193 dX11_count_1 (by decide) (by decide) (by decide) rfl ?_
  refine V_aload_n (pc := 193) (i := 0) dX11_count_193 rfl rfl ?_
  refine VW_getR (pc := 194) dX11_count_194 fX11_33 (by first | assumption | rfl) rfl ?_
  refine VW_getI (pc := 197) dX11_count_197 fX11_153 (by first | assumption | rfl) rfl ?_
  exact VE_iret (pc := 200) dX11_count_200 rfl rfl rfl
theorem X11_count_11 {s n pp r bb : Nat} (ci : RI S s n pp r bb) (hb : gB G ≤ b) (hd : 4 ≤ d) : VM G mX11_count d 0 0 [.ref (b + 0), .int 11] (xE (some (.int (S 2 4))) (wH G b tbC (S) h0)) (wH G b tbC S h0) := by
  obtain ⟨hsh, hn, h12, hg, hp, h8, hr, h7, hbb, hb8⟩ := id ci
  have hs := shC_or (S 0 9)
  have hS := tbC_shore (S 0 9)
  rw [hsh] at hs hS
  obtain ⟨a0, a1, a2, a3, a4, a5, a6, a7⟩ := id hS
  obtain ⟨i0, i1, i2, i3⟩ := id a2
  obtain ⟨r0, r1, r2⟩ := id a3
  refine VM_start (ls := [some (.ref (b + 0)), some (.int 11)]) rfl ?_
  -- %m X11_count
  refine V_iload_n (pc := 0) (i := 1) dX11_count_0 rfl rfl ?_
  refine V_tableIn (pc := 1) (off := 200) 201 dX11_count_1 (by decide) (by decide) (by decide) rfl ?_
  refine V_aload_n (pc := 201) (i := 0) dX11_count_201 rfl rfl ?_
  refine VW_getR (pc := 202) dX11_count_202 fX11_10 (by first | assumption | rfl) rfl ?_
  refine VW_getR (pc := 205) dX11_count_205 fX11_81 (by first | assumption | rfl) rfl ?_
  refine VW_getI (pc := 208) dX11_count_208 fX11_85 (by first | assumption | rfl) rfl ?_
  exact VE_iret (pc := 211) dX11_count_211 rfl rfl rfl
theorem X11_count_12 {s n pp r bb : Nat} (ci : RI S s n pp r bb) (hb : gB G ≤ b) (hd : 4 ≤ d) : VM G mX11_count d 0 0 [.ref (b + 0), .int 12] (xE (some (.int (S 27 0))) (wH G b tbC (S) h0)) (wH G b tbC S h0) := by
  obtain ⟨hsh, hn, h12, hg, hp, h8, hr, h7, hbb, hb8⟩ := id ci
  have hs := shC_or (S 0 9)
  have hS := tbC_shore (S 0 9)
  rw [hsh] at hs hS
  obtain ⟨a0, a1, a2, a3, a4, a5, a6, a7⟩ := id hS
  obtain ⟨i0, i1, i2, i3⟩ := id a2
  obtain ⟨r0, r1, r2⟩ := id a3
  refine VM_start (ls := [some (.ref (b + 0)), some (.int 12)]) rfl ?_
  -- %m X11_count
  refine V_iload_n (pc := 0) (i := 1) dX11_count_0 rfl rfl ?_
  refine V_tableIn (pc := 1) (off := 211) 212 dX11_count_1 (by decide) (by decide) (by decide) rfl ?_
  refine V_aload_n (pc := 212) (i := 0) dX11_count_212 rfl rfl ?_
  refine VW_getR (pc := 213) dX11_count_213 fX11_37 (by first | assumption | rfl) rfl ?_
  refine V_iconst (pc := 216) (v := 0) dX11_count_216 (by decide) ?_
  refine VW_ialdN (pc := 217) dX11_count_217 (by first | assumption | rfl) (j := 0) rfl (by decide) (by first | decide | omega) ?_
  exact VE_iret (pc := 218) dX11_count_218 rfl rfl rfl
theorem X11_count_13 {s n pp r bb : Nat} (ci : RI S s n pp r bb) (hb : gB G ≤ b) (hd : 4 ≤ d) : VM G mX11_count d 0 0 [.ref (b + 0), .int 13] (xE (some (.int (S 27 1))) (wH G b tbC (S) h0)) (wH G b tbC S h0) := by
  obtain ⟨hsh, hn, h12, hg, hp, h8, hr, h7, hbb, hb8⟩ := id ci
  have hs := shC_or (S 0 9)
  have hS := tbC_shore (S 0 9)
  rw [hsh] at hs hS
  obtain ⟨a0, a1, a2, a3, a4, a5, a6, a7⟩ := id hS
  obtain ⟨i0, i1, i2, i3⟩ := id a2
  obtain ⟨r0, r1, r2⟩ := id a3
  refine VM_start (ls := [some (.ref (b + 0)), some (.int 13)]) rfl ?_
  -- %m X11_count
  refine V_iload_n (pc := 0) (i := 1) dX11_count_0 rfl rfl ?_
  refine V_tableIn (pc := 1) (off := 218) 219 dX11_count_1 (by decide) (by decide) (by decide) rfl ?_
  refine V_aload_n (pc := 219) (i := 0) dX11_count_219 rfl rfl ?_
  refine VW_getR (pc := 220) dX11_count_220 fX11_37 (by first | assumption | rfl) rfl ?_
  refine V_iconst (pc := 223) (v := 1) dX11_count_223 (by decide) ?_
  refine VW_ialdN (pc := 224) dX11_count_224 (by first | assumption | rfl) (j := 1) rfl (by decide) (by first | decide | omega) ?_
  exact VE_iret (pc := 225) dX11_count_225 rfl rfl rfl
theorem X11_count_14 {s n pp r bb : Nat} (ci : RI S s n pp r bb) (hb : gB G ≤ b) (hd : 4 ≤ d) : VM G mX11_count d 0 0 [.ref (b + 0), .int 14] (xE (some (.int (S 27 2))) (wH G b tbC (S) h0)) (wH G b tbC S h0) := by
  obtain ⟨hsh, hn, h12, hg, hp, h8, hr, h7, hbb, hb8⟩ := id ci
  have hs := shC_or (S 0 9)
  have hS := tbC_shore (S 0 9)
  rw [hsh] at hs hS
  obtain ⟨a0, a1, a2, a3, a4, a5, a6, a7⟩ := id hS
  obtain ⟨i0, i1, i2, i3⟩ := id a2
  obtain ⟨r0, r1, r2⟩ := id a3
  refine VM_start (ls := [some (.ref (b + 0)), some (.int 14)]) rfl ?_
  -- %m X11_count
  refine V_iload_n (pc := 0) (i := 1) dX11_count_0 rfl rfl ?_
  refine V_tableIn (pc := 1) (off := 225) 226 dX11_count_1 (by decide) (by decide) (by decide) rfl ?_
  refine V_aload_n (pc := 226) (i := 0) dX11_count_226 rfl rfl ?_
  refine VW_getR (pc := 227) dX11_count_227 fX11_37 (by first | assumption | rfl) rfl ?_
  refine V_iconst (pc := 230) (v := 2) dX11_count_230 (by decide) ?_
  refine VW_ialdN (pc := 231) dX11_count_231 (by first | assumption | rfl) (j := 2) rfl (by decide) (by first | decide | omega) ?_
  exact VE_iret (pc := 232) dX11_count_232 rfl rfl rfl
theorem X11_count_bad {s n pp r bb : Nat} (ci : RI S s n pp r bb) {x : Int32} (hx : x < 0 ∨ 14 < x) (hb : gB G ≤ b) (hd : 6 ≤ d) : VM G mX11_count d 1 6 [.ref (b + 0), .int x] (xT NSE (wH G b tbC S h0)) (wH G b tbC S h0) := by
  obtain ⟨hsh, hn, h12, hg, hp, h8, hr, h7, hbb, hb8⟩ := id ci
  have hs := shC_or (S 0 9)
  have hS := tbC_shore (S 0 9)
  rw [hsh] at hs hS
  obtain ⟨a0, a1, a2, a3, a4, a5, a6, a7⟩ := id hS
  obtain ⟨i0, i1, i2, i3⟩ := id a2
  obtain ⟨r0, r1, r2⟩ := id a3
  refine VM_start (ls := [some (.ref (b + 0)), some (.int x)]) rfl ?_
  -- %m X11_count
  refine V_iload_n (pc := 0) (i := 1) dX11_count_0 rfl rfl ?_
  have hout : x.toInt < 0 ∨ 14 < x.toInt := by
    have z0 : (0 : Int32).toInt = 0 := rfl
    have z1 : (14 : Int32).toInt = 14 := rfl
    rcases hx with h | h
    · rw [Int32.lt_iff_toInt_lt] at h; omega
    · rw [Int32.lt_iff_toInt_lt] at h; omega
  refine V_tableOut (pc := 1) 233 dX11_count_1 hout rfl ?_
  exact V_throwN (pc := 233) th156 dX11_count_233 dX11_count_236 dX11_count_237 dX11_count_239 dX11_count_242 rfl (by omega) (Nat.le_of_ble_eq_true rfl) (fun h' e => ⟨rfl, e⟩)
theorem X11_worth {s n pp r bb : Nat} (ci : RI S s n pp r bb) {q : Nat} (hq : q < 10) (hb : gB G ≤ b) (hd : 1 ≤ d) : VM G mX11_worth d 0 0 [.ref (b + 0), .int (nI q)] (xE (some (.int (S (s + 1) q))) (wH G b tbC (S) h0)) (wH G b tbC S h0) := by
  obtain ⟨hsh, hn, h12, hg, hp, h8, hr, h7, hbb, hb8⟩ := id ci
  have hs := shC_or (S 0 9)
  have hS := tbC_shore (S 0 9)
  rw [hsh] at hs hS
  obtain ⟨a0, a1, a2, a3, a4, a5, a6, a7⟩ := id hS
  obtain ⟨i0, i1, i2, i3⟩ := id a2
  obtain ⟨r0, r1, r2⟩ := id a3
  refine VM_start (ls := [some (.ref (b + 0)), some (.int (nI q))]) rfl ?_
  -- %m X11_worth
  refine V_iload_n (pc := 0) (i := 1) dX11_worth_0 rfl rfl ?_
  refine V_S1v (pc := 1) dX11_worth_1 cX11_161 (X11_mustBeThing_ok (d := 0) hq) (Nat.le_of_ble_eq_true rfl) (by omega) (Nat.le_of_ble_eq_true rfl) ?_
  refine V_aload_n (pc := 4) (i := 0) dX11_worth_4 rfl rfl ?_
  refine VW_getWs (pc := 5) dX11_worth_5 fX11_68 (by first | assumption | rfl) rfl (by first | assumption | (simp (disch := omega) only [up2_row, up2_col, up2_same, upR_row]; assumption)) ?_
  refine VW_getR (pc := 8) dX11_worth_8 fX11_164 (by first | assumption | rfl) rfl ?_
  refine V_iload_n (pc := 11) (i := 1) dX11_worth_11 rfl rfl ?_
  refine VW_ialdN (pc := 12) dX11_worth_12 (by first | assumption | rfl) rfl (by omega) (by first | decide | omega) ?_
  exact VE_iret (pc := 13) dX11_worth_13 rfl rfl rfl
theorem X11_conditional_0 {s n pp r bb : Nat} (ci : RI S s n pp r bb) {q : Nat} (hq : q < n) (hb : gB G ≤ b) (hd : 1 ≤ d) : VM G mX11_conditional d 0 0 [.ref (b + 0), .int (nI q), .int 0] (xE (some (.int (S (s + 3) q))) (wH G b tbC (S) h0)) (wH G b tbC S h0) := by
  obtain ⟨hsh, hn, h12, hg, hp, h8, hr, h7, hbb, hb8⟩ := id ci
  have hs := shC_or (S 0 9)
  have hS := tbC_shore (S 0 9)
  rw [hsh] at hs hS
  obtain ⟨a0, a1, a2, a3, a4, a5, a6, a7⟩ := id hS
  obtain ⟨i0, i1, i2, i3⟩ := id a2
  obtain ⟨r0, r1, r2⟩ := id a3
  refine VM_start (ls := [some (.ref (b + 0)), some (.int (nI q)), some (.int 0)]) rfl ?_
  -- %m X11_conditional
  refine V_aload_n (pc := 0) (i := 0) dX11_conditional_0 rfl rfl ?_
  refine V_iload_n (pc := 1) (i := 1) dX11_conditional_1 rfl rfl ?_
  refine V_V1v (pc := 2) dX11_conditional_2 cX11_167 (by first | assumption | rfl) (X11_mustBeIf_ok (d := 0) hsh hn h12 hq) (Nat.le_of_ble_eq_true rfl) (by omega) (Nat.le_of_ble_eq_true rfl) ?_
  refine V_iload_n (pc := 5) (i := 2) dX11_conditional_5 rfl rfl ?_
  refine V_tableIn (pc := 6) (off := 34) 40 dX11_conditional_6 (by decide) (by decide) (by decide) rfl ?_
  refine V_aload_n (pc := 40) (i := 0) dX11_conditional_40 rfl rfl ?_
  refine VW_getWs (pc := 41) dX11_conditional_41 fX11_68 (by first | assumption | rfl) rfl (by first | assumption | (simp (disch := omega) only [up2_row, up2_col, up2_same, upR_row]; assumption)) ?_
  refine VW_getR (pc := 44) dX11_conditional_44 fX11_123 (by first | assumption | rfl) rfl ?_
  refine VW_getR (pc := 47) dX11_conditional_47 fX11_170 (by first | assumption | rfl) rfl ?_
  refine V_iload_n (pc := 50) (i := 1) dX11_conditional_50 rfl rfl ?_
  refine VW_ialdN (pc := 51) dX11_conditional_51 (by first | assumption | rfl) rfl (by omega) (by first | decide | omega) ?_
  exact VE_iret (pc := 52) dX11_conditional_52 rfl rfl rfl
theorem X11_conditional_1 {s n pp r bb : Nat} (ci : RI S s n pp r bb) {q : Nat} (hq : q < n) (hb : gB G ≤ b) (hd : 1 ≤ d) : VM G mX11_conditional d 0 0 [.ref (b + 0), .int (nI q), .int 1] (xE (some (.int (S (s + 4) q))) (wH G b tbC (S) h0)) (wH G b tbC S h0) := by
  obtain ⟨hsh, hn, h12, hg, hp, h8, hr, h7, hbb, hb8⟩ := id ci
  have hs := shC_or (S 0 9)
  have hS := tbC_shore (S 0 9)
  rw [hsh] at hs hS
  obtain ⟨a0, a1, a2, a3, a4, a5, a6, a7⟩ := id hS
  obtain ⟨i0, i1, i2, i3⟩ := id a2
  obtain ⟨r0, r1, r2⟩ := id a3
  refine VM_start (ls := [some (.ref (b + 0)), some (.int (nI q)), some (.int 1)]) rfl ?_
  -- %m X11_conditional
  refine V_aload_n (pc := 0) (i := 0) dX11_conditional_0 rfl rfl ?_
  refine V_iload_n (pc := 1) (i := 1) dX11_conditional_1 rfl rfl ?_
  refine V_V1v (pc := 2) dX11_conditional_2 cX11_167 (by first | assumption | rfl) (X11_mustBeIf_ok (d := 0) hsh hn h12 hq) (Nat.le_of_ble_eq_true rfl) (by omega) (Nat.le_of_ble_eq_true rfl) ?_
  refine V_iload_n (pc := 5) (i := 2) dX11_conditional_5 rfl rfl ?_
  refine V_tableIn (pc := 6) (off := 47) 53 dX11_conditional_6 (by decide) (by decide) (by decide) rfl ?_
  refine V_aload_n (pc := 53) (i := 0) dX11_conditional_53 rfl rfl ?_
  refine VW_getWs (pc := 54) dX11_conditional_54 fX11_68 (by first | assumption | rfl) rfl (by first | assumption | (simp (disch := omega) only [up2_row, up2_col, up2_same, upR_row]; assumption)) ?_
  refine VW_getR (pc := 57) dX11_conditional_57 fX11_123 (by first | assumption | rfl) rfl ?_
  refine VW_getR (pc := 60) dX11_conditional_60 fX11_173 (by first | assumption | rfl) rfl ?_
  refine V_iload_n (pc := 63) (i := 1) dX11_conditional_63 rfl rfl ?_
  refine VW_ialdN (pc := 64) dX11_conditional_64 (by first | assumption | rfl) rfl (by omega) (by first | decide | omega) ?_
  exact VE_iret (pc := 65) dX11_conditional_65 rfl rfl rfl
theorem X11_conditional_2 {s n pp r bb : Nat} (ci : RI S s n pp r bb) {q : Nat} (hq : q < n) (hb : gB G ≤ b) (hd : 1 ≤ d) : VM G mX11_conditional d 0 0 [.ref (b + 0), .int (nI q), .int 2] (xE (some (.int (S (s + 5) q))) (wH G b tbC (S) h0)) (wH G b tbC S h0) := by
  obtain ⟨hsh, hn, h12, hg, hp, h8, hr, h7, hbb, hb8⟩ := id ci
  have hs := shC_or (S 0 9)
  have hS := tbC_shore (S 0 9)
  rw [hsh] at hs hS
  obtain ⟨a0, a1, a2, a3, a4, a5, a6, a7⟩ := id hS
  obtain ⟨i0, i1, i2, i3⟩ := id a2
  obtain ⟨r0, r1, r2⟩ := id a3
  refine VM_start (ls := [some (.ref (b + 0)), some (.int (nI q)), some (.int 2)]) rfl ?_
  -- %m X11_conditional
  refine V_aload_n (pc := 0) (i := 0) dX11_conditional_0 rfl rfl ?_
  refine V_iload_n (pc := 1) (i := 1) dX11_conditional_1 rfl rfl ?_
  refine V_V1v (pc := 2) dX11_conditional_2 cX11_167 (by first | assumption | rfl) (X11_mustBeIf_ok (d := 0) hsh hn h12 hq) (Nat.le_of_ble_eq_true rfl) (by omega) (Nat.le_of_ble_eq_true rfl) ?_
  refine V_iload_n (pc := 5) (i := 2) dX11_conditional_5 rfl rfl ?_
  refine V_tableIn (pc := 6) (off := 60) 66 dX11_conditional_6 (by decide) (by decide) (by decide) rfl ?_
  refine V_aload_n (pc := 66) (i := 0) dX11_conditional_66 rfl rfl ?_
  refine VW_getWs (pc := 67) dX11_conditional_67 fX11_68 (by first | assumption | rfl) rfl (by first | assumption | (simp (disch := omega) only [up2_row, up2_col, up2_same, upR_row]; assumption)) ?_
  refine VW_getR (pc := 70) dX11_conditional_70 fX11_123 (by first | assumption | rfl) rfl ?_
  refine VW_getR (pc := 73) dX11_conditional_73 fX11_176 (by first | assumption | rfl) rfl ?_
  refine V_iload_n (pc := 76) (i := 1) dX11_conditional_76 rfl rfl ?_
  refine VW_ialdN (pc := 77) dX11_conditional_77 (by first | assumption | rfl) rfl (by omega) (by first | decide | omega) ?_
  exact VE_iret (pc := 78) dX11_conditional_78 rfl rfl rfl
theorem X11_conditional_3 {s n pp r bb : Nat} (ci : RI S s n pp r bb) {q : Nat} (hq : q < n) (hb : gB G ≤ b) (hd : 1 ≤ d) : VM G mX11_conditional d 0 0 [.ref (b + 0), .int (nI q), .int 3] (xE (some (.int (b2i (hasB (S (s + 2) 3) (nI q))))) (wH G b tbC (S) h0)) (wH G b tbC S h0) := by
  obtain ⟨hsh, hn, h12, hg, hp, h8, hr, h7, hbb, hb8⟩ := id ci
  have hs := shC_or (S 0 9)
  have hS := tbC_shore (S 0 9)
  rw [hsh] at hs hS
  obtain ⟨a0, a1, a2, a3, a4, a5, a6, a7⟩ := id hS
  obtain ⟨i0, i1, i2, i3⟩ := id a2
  obtain ⟨r0, r1, r2⟩ := id a3
  refine VM_start (ls := [some (.ref (b + 0)), some (.int (nI q)), some (.int 3)]) rfl ?_
  -- %m X11_conditional
  refine V_aload_n (pc := 0) (i := 0) dX11_conditional_0 rfl rfl ?_
  refine V_iload_n (pc := 1) (i := 1) dX11_conditional_1 rfl rfl ?_
  refine V_V1v (pc := 2) dX11_conditional_2 cX11_167 (by first | assumption | rfl) (X11_mustBeIf_ok (d := 0) hsh hn h12 hq) (Nat.le_of_ble_eq_true rfl) (by omega) (Nat.le_of_ble_eq_true rfl) ?_
  refine V_iload_n (pc := 5) (i := 2) dX11_conditional_5 rfl rfl ?_
  refine V_tableIn (pc := 6) (off := 73) 79 dX11_conditional_6 (by decide) (by decide) (by decide) rfl ?_
  refine V_iload_n (pc := 79) (i := 1) dX11_conditional_79 rfl rfl ?_
  refine V_aload_n (pc := 80) (i := 0) dX11_conditional_80 rfl rfl ?_
  refine VW_getWs (pc := 81) dX11_conditional_81 fX11_68 (by first | assumption | rfl) rfl (by first | assumption | (simp (disch := omega) only [up2_row, up2_col, up2_same, upR_row]; assumption)) ?_
  refine VW_getR (pc := 84) dX11_conditional_84 fX11_123 (by first | assumption | rfl) rfl ?_
  refine VW_getI (pc := 87) dX11_conditional_87 fX11_179 (by first | assumption | rfl) rfl ?_
  refine V_S2i (pc := 90) dX11_conditional_90 cX11_182 (X11_isIn (d := 0) _ _) (Nat.le_of_ble_eq_true rfl) (by omega) (Nat.le_of_ble_eq_true rfl) ?_
  refine V_if_eq (pc := 93) 100 dX11_conditional_93 rfl (fun c93 => ?_) (fun c93 => ?_)
  · refine V_iconst (pc := 100) (v := 0) dX11_conditional_100 (by decide) ?_
    exact VE_iret (pc := 101) dX11_conditional_101 rfl (by first | (rw [b2i_0.mp c93]; rfl) | (rw [b2i_n0.mp c93]; rfl)) rfl
  · refine V_iconst (pc := 96) (v := 1) dX11_conditional_96 (by decide) ?_
    refine V_goto (pc := 97) 101 dX11_conditional_97 rfl ?_
    exact VE_iret (pc := 101) dX11_conditional_101 rfl (by first | (rw [b2i_0.mp c93]; rfl) | (rw [b2i_n0.mp c93]; rfl)) rfl
theorem X11_conditional_4 {s n pp r bb : Nat} (ci : RI S s n pp r bb) {q : Nat} (hq : q < n) (hb : gB G ≤ b) (hd : 1 ≤ d) : VM G mX11_conditional d 0 0 [.ref (b + 0), .int (nI q), .int 4] (xE (some (.int (b2i (hasB (S 17 4) (nI q))))) (wH G b tbC (S) h0)) (wH G b tbC S h0) := by
  obtain ⟨hsh, hn, h12, hg, hp, h8, hr, h7, hbb, hb8⟩ := id ci
  have hs := shC_or (S 0 9)
  have hS := tbC_shore (S 0 9)
  rw [hsh] at hs hS
  obtain ⟨a0, a1, a2, a3, a4, a5, a6, a7⟩ := id hS
  obtain ⟨i0, i1, i2, i3⟩ := id a2
  obtain ⟨r0, r1, r2⟩ := id a3
  refine VM_start (ls := [some (.ref (b + 0)), some (.int (nI q)), some (.int 4)]) rfl ?_
  -- %m X11_conditional
  refine V_aload_n (pc := 0) (i := 0) dX11_conditional_0 rfl rfl ?_
  refine V_iload_n (pc := 1) (i := 1) dX11_conditional_1 rfl rfl ?_
  refine V_V1v (pc := 2) dX11_conditional_2 cX11_167 (by first | assumption | rfl) (X11_mustBeIf_ok (d := 0) hsh hn h12 hq) (Nat.le_of_ble_eq_true rfl) (by omega) (Nat.le_of_ble_eq_true rfl) ?_
  refine V_iload_n (pc := 5) (i := 2) dX11_conditional_5 rfl rfl ?_
  refine V_tableIn (pc := 6) (off := 96) 102 dX11_conditional_6 (by decide) (by decide) (by decide) rfl ?_
  refine V_iload_n (pc := 102) (i := 1) dX11_conditional_102 rfl rfl ?_
  refine V_aload_n (pc := 103) (i := 0) dX11_conditional_103 rfl rfl ?_
  refine VW_getR (pc := 104) dX11_conditional_104 fX11_19 (by first | assumption | rfl) rfl ?_
  refine VW_getI (pc := 107) dX11_conditional_107 fX11_139 (by first | assumption | rfl) rfl ?_
  refine V_S2i (pc := 110) dX11_conditional_110 cX11_182 (X11_isIn (d := 0) _ _) (Nat.le_of_ble_eq_true rfl) (by omega) (Nat.le_of_ble_eq_true rfl) ?_
  refine V_if_eq (pc := 113) 120 dX11_conditional_113 rfl (fun c113 => ?_) (fun c113 => ?_)
  · refine V_iconst (pc := 120) (v := 0) dX11_conditional_120 (by decide) ?_
    exact VE_iret (pc := 121) dX11_conditional_121 rfl (by first | (rw [b2i_0.mp c113]; rfl) | (rw [b2i_n0.mp c113]; rfl)) rfl
  · refine V_iconst (pc := 116) (v := 1) dX11_conditional_116 (by decide) ?_
    refine V_goto (pc := 117) 121 dX11_conditional_117 rfl ?_
    exact VE_iret (pc := 121) dX11_conditional_121 rfl (by first | (rw [b2i_0.mp c113]; rfl) | (rw [b2i_n0.mp c113]; rfl)) rfl
theorem X11_conditional_bad2 {s n pp r bb : Nat} (ci : RI S s n pp r bb) {q : Nat} (hq : q < n) {x : Int32} (hx : x < 0 ∨ 4 < x) (hb : gB G ≤ b) (hd : 6 ≤ d) : VM G mX11_conditional d 1 6 [.ref (b + 0), .int (nI q), .int x] (xT NSE (wH G b tbC S h0)) (wH G b tbC S h0) := by
  obtain ⟨hsh, hn, h12, hg, hp, h8, hr, h7, hbb, hb8⟩ := id ci
  have hs := shC_or (S 0 9)
  have hS := tbC_shore (S 0 9)
  rw [hsh] at hs hS
  obtain ⟨a0, a1, a2, a3, a4, a5, a6, a7⟩ := id hS
  obtain ⟨i0, i1, i2, i3⟩ := id a2
  obtain ⟨r0, r1, r2⟩ := id a3
  refine VM_start (ls := [some (.ref (b + 0)), some (.int (nI q)), some (.int x)]) rfl ?_
  -- %m X11_conditional
  refine V_aload_n (pc := 0) (i := 0) dX11_conditional_0 rfl rfl ?_
  refine V_iload_n (pc := 1) (i := 1) dX11_conditional_1 rfl rfl ?_
  refine V_V1v (pc := 2) dX11_conditional_2 cX11_167 (by first | assumption | rfl) (X11_mustBeIf_ok (d := 0) hsh hn h12 hq) (Nat.le_of_ble_eq_true rfl) (by omega) (Nat.le_of_ble_eq_true rfl) ?_
  refine V_iload_n (pc := 5) (i := 2) dX11_conditional_5 rfl rfl ?_
  have hout : x.toInt < 0 ∨ 4 < x.toInt := by
    have z0 : (0 : Int32).toInt = 0 := rfl
    have z1 : (4 : Int32).toInt = 4 := rfl
    rcases hx with h | h
    · rw [Int32.lt_iff_toInt_lt] at h; omega
    · rw [Int32.lt_iff_toInt_lt] at h; omega
  refine V_tableOut (pc := 6) 122 dX11_conditional_6 hout rfl ?_
  exact V_throwN (pc := 122) th186 dX11_conditional_122 dX11_conditional_125 dX11_conditional_126 dX11_conditional_128 dX11_conditional_131 rfl (by omega) (Nat.le_of_ble_eq_true rfl) (fun h' e => ⟨rfl, e⟩)
theorem X11_wantsNext {s n pp r bb : Nat} (ci : RI S s n pp r bb) {q : Nat} (hq : q < pp) (hb : gB G ≤ b) (hd : 6 ≤ d) : VM G mX11_wantsNext d 0 0 [.ref (b + 0), .int (nI q)] (xE (some (.int (b2i (wkWants (wkBegin S (S 0 9) n pp) s r q).1))) (wH G b tbC ((wkWants (wkBegin S (S 0 9) n pp) s r q).2) h0)) (wH G b tbC S h0) := by
  obtain ⟨hsh, hn, h12, hg, hp, h8, hr, h7, hbb, hb8⟩ := id ci
  have hs := shC_or (S 0 9)
  have hS := tbC_shore (S 0 9)
  rw [hsh] at hs hS
  obtain ⟨a0, a1, a2, a3, a4, a5, a6, a7⟩ := id hS
  obtain ⟨i0, i1, i2, i3⟩ := id a2
  obtain ⟨r0, r1, r2⟩ := id a3
  refine VM_start (ls := [some (.ref (b + 0)), some (.int (nI q))]) rfl ?_
  -- %m X11_wantsNext
  have w := wkBegin_WI hs ci
  refine V_aload_n (pc := 0) (i := 0) dX11_wantsNext_0 rfl rfl ?_
  refine VW_getR (pc := 1) dX11_wantsNext_1 fX11_77 (by first | assumption | rfl) rfl ?_
  refine V_aload_n (pc := 4) (i := 0) dX11_wantsNext_4 rfl rfl ?_
  refine VW_getWs (pc := 5) dX11_wantsNext_5 fX11_68 (by first | assumption | rfl) rfl (by first | assumption | (simp (disch := omega) only [up2_row, up2_col, up2_same, upR_row]; assumption)) ?_
  refine V_aload_n (pc := 8) (i := 0) dX11_wantsNext_8 rfl rfl ?_
  refine VW_getR (pc := 9) dX11_wantsNext_9 fX11_19 (by first | assumption | rfl) rfl ?_
  refine V_V2v (pc := 12) dX11_wantsNext_12 cX11_219 (by first | assumption | rfl) (X10_begin2 (d := 5) hsh hn h12 hp h8 hb (by omega)) (Nat.le_of_ble_eq_true rfl) (by omega) (Nat.le_of_ble_eq_true rfl) ?_
  refine V_aload_n (pc := 15) (i := 0) dX11_wantsNext_15 rfl rfl ?_
  refine VW_getR (pc := 16) dX11_wantsNext_16 fX11_77 (by first | assumption | rfl) rfl ?_
  refine V_iload_n (pc := 19) (i := 1) dX11_wantsNext_19 rfl rfl ?_
  refine V_V1i (pc := 20) dX11_wantsNext_20 cX11_223 (by first | assumption | rfl) (X10_wants (d := 2) w.1 w.2.2.1 h7 (by omega) hb (by omega)) (Nat.le_of_ble_eq_true rfl) (by omega) (Nat.le_of_ble_eq_true rfl) ?_
  exact VE_zret (pc := 23) dX11_wantsNext_23 rfl (b2i_01 _) rfl rfl
theorem X11_person_0 {s n pp r bb : Nat} (ci : RI S s n pp r bb) {q : Nat} (hq : q < pp) (hb : gB G ≤ b) (hd : 7 ≤ d) : VM G mX11_person d 0 0 [.ref (b + 0), .int (nI q), .int 0] (xE (some (.int (S 18 q))) (wH G b tbC (S) h0)) (wH G b tbC S h0) := by
  obtain ⟨hsh, hn, h12, hg, hp, h8, hr, h7, hbb, hb8⟩ := id ci
  have hs := shC_or (S 0 9)
  have hS := tbC_shore (S 0 9)
  rw [hsh] at hs hS
  obtain ⟨a0, a1, a2, a3, a4, a5, a6, a7⟩ := id hS
  obtain ⟨i0, i1, i2, i3⟩ := id a2
  obtain ⟨r0, r1, r2⟩ := id a3
  refine VM_start (ls := [some (.ref (b + 0)), some (.int (nI q)), some (.int 0)]) rfl ?_
  -- %m X11_person
  refine V_aload_n (pc := 0) (i := 0) dX11_person_0 rfl rfl ?_
  refine V_iload_n (pc := 1) (i := 1) dX11_person_1 rfl rfl ?_
  refine V_V1v (pc := 2) dX11_person_2 cX11_188 (by first | assumption | rfl) (X11_mustBePerson_ok (d := 0) hsh hp h8 hq) (Nat.le_of_ble_eq_true rfl) (by omega) (Nat.le_of_ble_eq_true rfl) ?_
  refine V_iload_n (pc := 5) (i := 2) dX11_person_5 rfl rfl ?_
  refine V_tableIn (pc := 6) (off := 46) 52 dX11_person_6 (by decide) (by decide) (by decide) rfl ?_
  refine V_aload_n (pc := 52) (i := 0) dX11_person_52 rfl rfl ?_
  refine VW_getR (pc := 53) dX11_person_53 fX11_19 (by first | assumption | rfl) rfl ?_
  refine VW_getR (pc := 56) dX11_person_56 fX11_191 (by first | assumption | rfl) rfl ?_
  refine V_iload_n (pc := 59) (i := 1) dX11_person_59 rfl rfl ?_
  refine VW_ialdN (pc := 60) dX11_person_60 (by first | assumption | rfl) rfl (by omega) (by first | decide | omega) ?_
  exact VE_iret (pc := 61) dX11_person_61 rfl rfl rfl
theorem X11_person_1 {s n pp r bb : Nat} (ci : RI S s n pp r bb) {q : Nat} (hq : q < pp) (hb : gB G ≤ b) (hd : 7 ≤ d) : VM G mX11_person d 0 0 [.ref (b + 0), .int (nI q), .int 1] (xE (some (.int (S 19 q))) (wH G b tbC (S) h0)) (wH G b tbC S h0) := by
  obtain ⟨hsh, hn, h12, hg, hp, h8, hr, h7, hbb, hb8⟩ := id ci
  have hs := shC_or (S 0 9)
  have hS := tbC_shore (S 0 9)
  rw [hsh] at hs hS
  obtain ⟨a0, a1, a2, a3, a4, a5, a6, a7⟩ := id hS
  obtain ⟨i0, i1, i2, i3⟩ := id a2
  obtain ⟨r0, r1, r2⟩ := id a3
  refine VM_start (ls := [some (.ref (b + 0)), some (.int (nI q)), some (.int 1)]) rfl ?_
  -- %m X11_person
  refine V_aload_n (pc := 0) (i := 0) dX11_person_0 rfl rfl ?_
  refine V_iload_n (pc := 1) (i := 1) dX11_person_1 rfl rfl ?_
  refine V_V1v (pc := 2) dX11_person_2 cX11_188 (by first | assumption | rfl) (X11_mustBePerson_ok (d := 0) hsh hp h8 hq) (Nat.le_of_ble_eq_true rfl) (by omega) (Nat.le_of_ble_eq_true rfl) ?_
  refine V_iload_n (pc := 5) (i := 2) dX11_person_5 rfl rfl ?_
  refine V_tableIn (pc := 6) (off := 56) 62 dX11_person_6 (by decide) (by decide) (by decide) rfl ?_
  refine V_aload_n (pc := 62) (i := 0) dX11_person_62 rfl rfl ?_
  refine VW_getR (pc := 63) dX11_person_63 fX11_19 (by first | assumption | rfl) rfl ?_
  refine VW_getR (pc := 66) dX11_person_66 fX11_194 (by first | assumption | rfl) rfl ?_
  refine V_iload_n (pc := 69) (i := 1) dX11_person_69 rfl rfl ?_
  refine VW_ialdN (pc := 70) dX11_person_70 (by first | assumption | rfl) rfl (by omega) (by first | decide | omega) ?_
  exact VE_iret (pc := 71) dX11_person_71 rfl rfl rfl
theorem X11_person_2 {s n pp r bb : Nat} (ci : RI S s n pp r bb) {q : Nat} (hq : q < pp) (hb : gB G ≤ b) (hd : 7 ≤ d) : VM G mX11_person d 0 0 [.ref (b + 0), .int (nI q), .int 2] (xE (some (.int (S (s + 9) q))) (wH G b tbC (S) h0)) (wH G b tbC S h0) := by
  obtain ⟨hsh, hn, h12, hg, hp, h8, hr, h7, hbb, hb8⟩ := id ci
  have hs := shC_or (S 0 9)
  have hS := tbC_shore (S 0 9)
  rw [hsh] at hs hS
  obtain ⟨a0, a1, a2, a3, a4, a5, a6, a7⟩ := id hS
  obtain ⟨i0, i1, i2, i3⟩ := id a2
  obtain ⟨r0, r1, r2⟩ := id a3
  refine VM_start (ls := [some (.ref (b + 0)), some (.int (nI q)), some (.int 2)]) rfl ?_
  -- %m X11_person
  refine V_aload_n (pc := 0) (i := 0) dX11_person_0 rfl rfl ?_
  refine V_iload_n (pc := 1) (i := 1) dX11_person_1 rfl rfl ?_
  refine V_V1v (pc := 2) dX11_person_2 cX11_188 (by first | assumption | rfl) (X11_mustBePerson_ok (d := 0) hsh hp h8 hq) (Nat.le_of_ble_eq_true rfl) (by omega) (Nat.le_of_ble_eq_true rfl) ?_
  refine V_iload_n (pc := 5) (i := 2) dX11_person_5 rfl rfl ?_
  refine V_tableIn (pc := 6) (off := 66) 72 dX11_person_6 (by decide) (by decide) (by decide) rfl ?_
  refine V_aload_n (pc := 72) (i := 0) dX11_person_72 rfl rfl ?_
  refine VW_getWs (pc := 73) dX11_person_73 fX11_68 (by first | assumption | rfl) rfl (by first | assumption | (simp (disch := omega) only [up2_row, up2_col, up2_same, upR_row]; assumption)) ?_
  refine VW_getR (pc := 76) dX11_person_76 fX11_197 (by first | assumption | rfl) rfl ?_
  refine V_iload_n (pc := 79) (i := 1) dX11_person_79 rfl rfl ?_
  refine VW_ialdN (pc := 80) dX11_person_80 (by first | assumption | rfl) rfl (by omega) (by first | decide | omega) ?_
  exact VE_iret (pc := 81) dX11_person_81 rfl rfl rfl
theorem X11_person_3 {s n pp r bb : Nat} (ci : RI S s n pp r bb) {q : Nat} (hq : q < pp) (hb : gB G ≤ b) (hd : 7 ≤ d) : VM G mX11_person d 0 0 [.ref (b + 0), .int (nI q), .int 3] (xE (some (.int (S 20 q))) (wH G b tbC (S) h0)) (wH G b tbC S h0) := by
  obtain ⟨hsh, hn, h12, hg, hp, h8, hr, h7, hbb, hb8⟩ := id ci
  have hs := shC_or (S 0 9)
  have hS := tbC_shore (S 0 9)
  rw [hsh] at hs hS
  obtain ⟨a0, a1, a2, a3, a4, a5, a6, a7⟩ := id hS
  obtain ⟨i0, i1, i2, i3⟩ := id a2
  obtain ⟨r0, r1, r2⟩ := id a3
  refine VM_start (ls := [some (.ref (b + 0)), some (.int (nI q)), some (.int 3)]) rfl ?_
  -- %m X11_person
  refine V_aload_n (pc := 0) (i := 0) dX11_person_0 rfl rfl ?_
  refine V_iload_n (pc := 1) (i := 1) dX11_person_1 rfl rfl ?_
  refine V_V1v (pc := 2) dX11_person_2 cX11_188 (by first | assumption | rfl) (X11_mustBePerson_ok (d := 0) hsh hp h8 hq) (Nat.le_of_ble_eq_true rfl) (by omega) (Nat.le_of_ble_eq_true rfl) ?_
  refine V_iload_n (pc := 5) (i := 2) dX11_person_5 rfl rfl ?_
  refine V_tableIn (pc := 6) (off := 76) 82 dX11_person_6 (by decide) (by decide) (by decide) rfl ?_
  refine V_aload_n (pc := 82) (i := 0) dX11_person_82 rfl rfl ?_
  refine VW_getR (pc := 83) dX11_person_83 fX11_19 (by first | assumption | rfl) rfl ?_
  refine VW_getR (pc := 86) dX11_person_86 fX11_200 (by first | assumption | rfl) rfl ?_
  refine V_iload_n (pc := 89) (i := 1) dX11_person_89 rfl rfl ?_
  refine VW_ialdN (pc := 90) dX11_person_90 (by first | assumption | rfl) rfl (by omega) (by first | decide | omega) ?_
  exact VE_iret (pc := 91) dX11_person_91 rfl rfl rfl
theorem X11_person_4 {s n pp r bb : Nat} (ci : RI S s n pp r bb) {q : Nat} (hq : q < pp) (hb : gB G ≤ b) (hd : 7 ≤ d) : VM G mX11_person d 0 0 [.ref (b + 0), .int (nI q), .int 4] (xE (some (.int (S 21 q))) (wH G b tbC (S) h0)) (wH G b tbC S h0) := by
  obtain ⟨hsh, hn, h12, hg, hp, h8, hr, h7, hbb, hb8⟩ := id ci
  have hs := shC_or (S 0 9)
  have hS := tbC_shore (S 0 9)
  rw [hsh] at hs hS
  obtain ⟨a0, a1, a2, a3, a4, a5, a6, a7⟩ := id hS
  obtain ⟨i0, i1, i2, i3⟩ := id a2
  obtain ⟨r0, r1, r2⟩ := id a3
  refine VM_start (ls := [some (.ref (b + 0)), some (.int (nI q)), some (.int 4)]) rfl ?_
  -- %m X11_person
  refine V_aload_n (pc := 0) (i := 0) dX11_person_0 rfl rfl ?_
  refine V_iload_n (pc := 1) (i := 1) dX11_person_1 rfl rfl ?_
  refine V_V1v (pc := 2) dX11_person_2 cX11_188 (by first | assumption | rfl) (X11_mustBePerson_ok (d := 0) hsh hp h8 hq) (Nat.le_of_ble_eq_true rfl) (by omega) (Nat.le_of_ble_eq_true rfl) ?_
  refine V_iload_n (pc := 5) (i := 2) dX11_person_5 rfl rfl ?_
  refine V_tableIn (pc := 6) (off := 86) 92 dX11_person_6 (by decide) (by decide) (by decide) rfl ?_
  refine V_aload_n (pc := 92) (i := 0) dX11_person_92 rfl rfl ?_
  refine VW_getR (pc := 93) dX11_person_93 fX11_19 (by first | assumption | rfl) rfl ?_
  refine VW_getR (pc := 96) dX11_person_96 fX11_203 (by first | assumption | rfl) rfl ?_
  refine V_iload_n (pc := 99) (i := 1) dX11_person_99 rfl rfl ?_
  refine VW_ialdN (pc := 100) dX11_person_100 (by first | assumption | rfl) rfl (by omega) (by first | decide | omega) ?_
  exact VE_iret (pc := 101) dX11_person_101 rfl rfl rfl
theorem X11_person_5 {s n pp r bb : Nat} (ci : RI S s n pp r bb) {q : Nat} (hq : q < pp) (hb : gB G ≤ b) (hd : 7 ≤ d) : VM G mX11_person d 0 0 [.ref (b + 0), .int (nI q), .int 5] (xE (some (.int (cThere S s 17 n q))) (wH G b tbC (S) h0)) (wH G b tbC S h0) := by
  obtain ⟨hsh, hn, h12, hg, hp, h8, hr, h7, hbb, hb8⟩ := id ci
  have hs := shC_or (S 0 9)
  have hS := tbC_shore (S 0 9)
  rw [hsh] at hs hS
  obtain ⟨a0, a1, a2, a3, a4, a5, a6, a7⟩ := id hS
  obtain ⟨i0, i1, i2, i3⟩ := id a2
  obtain ⟨r0, r1, r2⟩ := id a3
  refine VM_start (ls := [some (.ref (b + 0)), some (.int (nI q)), some (.int 5)]) rfl ?_
  -- %m X11_person
  refine V_aload_n (pc := 0) (i := 0) dX11_person_0 rfl rfl ?_
  refine V_iload_n (pc := 1) (i := 1) dX11_person_1 rfl rfl ?_
  refine V_V1v (pc := 2) dX11_person_2 cX11_188 (by first | assumption | rfl) (X11_mustBePerson_ok (d := 0) hsh hp h8 hq) (Nat.le_of_ble_eq_true rfl) (by omega) (Nat.le_of_ble_eq_true rfl) ?_
  refine V_iload_n (pc := 5) (i := 2) dX11_person_5 rfl rfl ?_
  refine V_tableIn (pc := 6) (off := 96) 102 dX11_person_6 (by decide) (by decide) (by decide) rfl ?_
  refine V_aload_n (pc := 102) (i := 0) dX11_person_102 rfl rfl ?_
  refine VW_getWs (pc := 103) dX11_person_103 fX11_68 (by first | assumption | rfl) rfl (by first | assumption | (simp (disch := omega) only [up2_row, up2_col, up2_same, upR_row]; assumption)) ?_
  refine V_aload_n (pc := 106) (i := 0) dX11_person_106 rfl rfl ?_
  refine VW_getR (pc := 107) dX11_person_107 fX11_19 (by first | assumption | rfl) rfl ?_
  refine V_iload_n (pc := 110) (i := 1) dX11_person_110 rfl rfl ?_
  refine V_V2i (pc := 111) dX11_person_111 cX11_206 (by first | assumption | rfl) (X7_thereOf (d := 3) hS tbC_17 hn h12 (by omega) (by omega)) (Nat.le_of_ble_eq_true rfl) (by omega) (Nat.le_of_ble_eq_true rfl) ?_
  exact VE_iret (pc := 114) dX11_person_114 rfl rfl rfl
theorem X11_person_6 {s n pp r bb : Nat} (ci : RI S s n pp r bb) {q : Nat} (hq : q < pp) (hb : gB G ≤ b) (hd : 7 ≤ d) : VM G mX11_person d 0 0 [.ref (b + 0), .int (nI q), .int 6] (xE (some (.int (cSpare S s 17 n q))) (wH G b tbC (S) h0)) (wH G b tbC S h0) := by
  obtain ⟨hsh, hn, h12, hg, hp, h8, hr, h7, hbb, hb8⟩ := id ci
  have hs := shC_or (S 0 9)
  have hS := tbC_shore (S 0 9)
  rw [hsh] at hs hS
  obtain ⟨a0, a1, a2, a3, a4, a5, a6, a7⟩ := id hS
  obtain ⟨i0, i1, i2, i3⟩ := id a2
  obtain ⟨r0, r1, r2⟩ := id a3
  refine VM_start (ls := [some (.ref (b + 0)), some (.int (nI q)), some (.int 6)]) rfl ?_
  -- %m X11_person
  refine V_aload_n (pc := 0) (i := 0) dX11_person_0 rfl rfl ?_
  refine V_iload_n (pc := 1) (i := 1) dX11_person_1 rfl rfl ?_
  refine V_V1v (pc := 2) dX11_person_2 cX11_188 (by first | assumption | rfl) (X11_mustBePerson_ok (d := 0) hsh hp h8 hq) (Nat.le_of_ble_eq_true rfl) (by omega) (Nat.le_of_ble_eq_true rfl) ?_
  refine V_iload_n (pc := 5) (i := 2) dX11_person_5 rfl rfl ?_
  refine V_tableIn (pc := 6) (off := 109) 115 dX11_person_6 (by decide) (by decide) (by decide) rfl ?_
  refine V_aload_n (pc := 115) (i := 0) dX11_person_115 rfl rfl ?_
  refine VW_getWs (pc := 116) dX11_person_116 fX11_68 (by first | assumption | rfl) rfl (by first | assumption | (simp (disch := omega) only [up2_row, up2_col, up2_same, upR_row]; assumption)) ?_
  refine V_aload_n (pc := 119) (i := 0) dX11_person_119 rfl rfl ?_
  refine VW_getR (pc := 120) dX11_person_120 fX11_19 (by first | assumption | rfl) rfl ?_
  refine V_iload_n (pc := 123) (i := 1) dX11_person_123 rfl rfl ?_
  refine V_V2i (pc := 124) dX11_person_124 cX11_210 (by first | assumption | rfl) (X7_sparedBankOf (d := 3) hS tbC_17 hn h12 (by omega) (by omega)) (Nat.le_of_ble_eq_true rfl) (by omega) (Nat.le_of_ble_eq_true rfl) ?_
  exact VE_iret (pc := 127) dX11_person_127 rfl rfl rfl
theorem X11_person_7 {s n pp r bb : Nat} (ci : RI S s n pp r bb) {q : Nat} (hq : q < pp) (hb : gB G ≤ b) (hd : 7 ≤ d) : VM G mX11_person d 0 0 [.ref (b + 0), .int (nI q), .int 7] (xE (some (.int (b2i (wkWants (wkBegin S (S 0 9) n pp) s r q).1))) (wH G b tbC ((wkWants (wkBegin S (S 0 9) n pp) s r q).2) h0)) (wH G b tbC S h0) := by
  obtain ⟨hsh, hn, h12, hg, hp, h8, hr, h7, hbb, hb8⟩ := id ci
  have hs := shC_or (S 0 9)
  have hS := tbC_shore (S 0 9)
  rw [hsh] at hs hS
  obtain ⟨a0, a1, a2, a3, a4, a5, a6, a7⟩ := id hS
  obtain ⟨i0, i1, i2, i3⟩ := id a2
  obtain ⟨r0, r1, r2⟩ := id a3
  refine VM_start (ls := [some (.ref (b + 0)), some (.int (nI q)), some (.int 7)]) rfl ?_
  -- %m X11_person
  refine V_aload_n (pc := 0) (i := 0) dX11_person_0 rfl rfl ?_
  refine V_iload_n (pc := 1) (i := 1) dX11_person_1 rfl rfl ?_
  refine V_V1v (pc := 2) dX11_person_2 cX11_188 (by first | assumption | rfl) (X11_mustBePerson_ok (d := 0) hsh hp h8 hq) (Nat.le_of_ble_eq_true rfl) (by omega) (Nat.le_of_ble_eq_true rfl) ?_
  refine V_iload_n (pc := 5) (i := 2) dX11_person_5 rfl rfl ?_
  refine V_tableIn (pc := 6) (off := 122) 128 dX11_person_6 (by decide) (by decide) (by decide) rfl ?_
  refine V_aload_n (pc := 128) (i := 0) dX11_person_128 rfl rfl ?_
  refine V_iload_n (pc := 129) (i := 1) dX11_person_129 rfl rfl ?_
  refine V_V1i (pc := 130) dX11_person_130 cX11_213 (by first | assumption | rfl) (X11_wantsNext (d := 6) ci hq hb (by omega)) (Nat.le_of_ble_eq_true rfl) (by omega) (Nat.le_of_ble_eq_true rfl) ?_
  refine V_if_eq (pc := 133) 140 dX11_person_133 rfl (fun c133 => ?_) (fun c133 => ?_)
  · refine V_iconst (pc := 140) (v := 0) dX11_person_140 (by decide) ?_
    exact VE_iret (pc := 141) dX11_person_141 rfl (by first | (rw [b2i_0.mp c133]; rfl) | (rw [b2i_n0.mp c133]; rfl)) rfl
  · refine V_iconst (pc := 136) (v := 1) dX11_person_136 (by decide) ?_
    refine V_goto (pc := 137) 141 dX11_person_137 rfl ?_
    exact VE_iret (pc := 141) dX11_person_141 rfl (by first | (rw [b2i_0.mp c133]; rfl) | (rw [b2i_n0.mp c133]; rfl)) rfl
theorem X11_person_bad2 {s n pp r bb : Nat} (ci : RI S s n pp r bb) {q : Nat} (hq : q < pp) {x : Int32} (hx : x < 0 ∨ 7 < x) (hb : gB G ≤ b) (hd : 6 ≤ d) : VM G mX11_person d 1 6 [.ref (b + 0), .int (nI q), .int x] (xT NSE (wH G b tbC S h0)) (wH G b tbC S h0) := by
  obtain ⟨hsh, hn, h12, hg, hp, h8, hr, h7, hbb, hb8⟩ := id ci
  have hs := shC_or (S 0 9)
  have hS := tbC_shore (S 0 9)
  rw [hsh] at hs hS
  obtain ⟨a0, a1, a2, a3, a4, a5, a6, a7⟩ := id hS
  obtain ⟨i0, i1, i2, i3⟩ := id a2
  obtain ⟨r0, r1, r2⟩ := id a3
  refine VM_start (ls := [some (.ref (b + 0)), some (.int (nI q)), some (.int x)]) rfl ?_
  -- %m X11_person
  refine V_aload_n (pc := 0) (i := 0) dX11_person_0 rfl rfl ?_
  refine V_iload_n (pc := 1) (i := 1) dX11_person_1 rfl rfl ?_
  refine V_V1v (pc := 2) dX11_person_2 cX11_188 (by first | assumption | rfl) (X11_mustBePerson_ok (d := 0) hsh hp h8 hq) (Nat.le_of_ble_eq_true rfl) (by omega) (Nat.le_of_ble_eq_true rfl) ?_
  refine V_iload_n (pc := 5) (i := 2) dX11_person_5 rfl rfl ?_
  have hout : x.toInt < 0 ∨ 7 < x.toInt := by
    have z0 : (0 : Int32).toInt = 0 := rfl
    have z1 : (7 : Int32).toInt = 7 := rfl
    rcases hx with h | h
    · rw [Int32.lt_iff_toInt_lt] at h; omega
    · rw [Int32.lt_iff_toInt_lt] at h; omega
  refine V_tableOut (pc := 6) 142 dX11_person_6 hout rfl ?_
  exact V_throwN (pc := 142) th217 dX11_person_142 dX11_person_145 dX11_person_146 dX11_person_148 dX11_person_151 rfl (by omega) (Nat.le_of_ble_eq_true rfl) (fun h' e => ⟨rfl, e⟩)
theorem X11_has_no {s n pp r bb : Nat} (ci : RI S s n pp r bb) {q t : Nat} (hq : q < pp) (ht : t < 10) {v : Int32} (hv : b2i (hasB (S 18 q) (nI t)) = v) (hb : gB G ≤ b) (hd : 1 ≤ d) : VM G mX11_has d 0 0 [.ref (b + 0), .int (nI q), .int (nI t), .int v] (xE (some (.int (-1))) (wH G b tbC (up2 S 27 1 (S 27 1 + 1)) h0)) (wH G b tbC S h0) := by
  obtain ⟨hsh, hn, h12, hg, hp, h8, hr, h7, hbb, hb8⟩ := id ci
  have hs := shC_or (S 0 9)
  have hS := tbC_shore (S 0 9)
  rw [hsh] at hs hS
  obtain ⟨a0, a1, a2, a3, a4, a5, a6, a7⟩ := id hS
  obtain ⟨i0, i1, i2, i3⟩ := id a2
  obtain ⟨r0, r1, r2⟩ := id a3
  refine VM_start (ls := [some (.ref (b + 0)), some (.int (nI q)), some (.int (nI t)), some (.int v)]) rfl ?_
  -- %m X11_has
  refine V_aload_n (pc := 0) (i := 0) dX11_has_0 rfl rfl ?_
  refine V_iload_n (pc := 1) (i := 1) dX11_has_1 rfl rfl ?_
  refine V_V1v (pc := 2) dX11_has_2 cX11_188 (by first | assumption | rfl) (X11_mustBePerson_ok (d := 0) hsh hp h8 hq) (Nat.le_of_ble_eq_true rfl) (by omega) (Nat.le_of_ble_eq_true rfl) ?_
  refine V_iload_n (pc := 5) (i := 2) dX11_has_5 rfl rfl ?_
  refine V_S1v (pc := 6) dX11_has_6 cX11_161 (X11_mustBeThing_ok (d := 0) ht) (Nat.le_of_ble_eq_true rfl) (by omega) (Nat.le_of_ble_eq_true rfl) ?_
  refine V_iload_n (pc := 9) (i := 2) dX11_has_9 rfl rfl ?_
  refine V_aload_n (pc := 10) (i := 0) dX11_has_10 rfl rfl ?_
  refine VW_getR (pc := 11) dX11_has_11 fX11_19 (by first | assumption | rfl) rfl ?_
  refine VW_getR (pc := 14) dX11_has_14 fX11_191 (by first | assumption | rfl) rfl ?_
  refine V_iload_n (pc := 17) (i := 1) dX11_has_17 rfl rfl ?_
  refine VW_ialdN (pc := 18) dX11_has_18 (by first | assumption | rfl) rfl (by omega) (by first | decide | omega) ?_
  refine V_S2i (pc := 19) dX11_has_19 cX11_182 (X11_isIn (d := 0) _ _) (Nat.le_of_ble_eq_true rfl) (by omega) (Nat.le_of_ble_eq_true rfl) ?_
  refine V_iload_n (pc := 22) (i := 3) dX11_has_22 rfl rfl ?_
  refine V_icmp_ne (pc := 23) 31 dX11_has_23 rfl (fun c23 => ?_) (fun c23 => ?_)
  · exact absurd hv c23
  · refine V_aload_n (pc := 26) (i := 0) dX11_has_26 rfl rfl ?_
    refine V_V0i (pc := 27) dX11_has_27 cX11_226 (by first | assumption | rfl) (X11_refuseAct (d := 0) hb) (Nat.le_of_ble_eq_true rfl) (by omega) (Nat.le_of_ble_eq_true rfl) ?_
    exact VE_iret (pc := 30) dX11_has_30 rfl rfl rfl
theorem X11_has_ok {s n pp r bb : Nat} (ci : RI S s n pp r bb) {q t : Nat} (hq : q < pp) (ht : t < 10) {v : Int32} (hv : ¬ b2i (hasB (S 18 q) (nI t)) = v) {o na : Nat} (h1 : S 22 1 = nI o) (h2 : S 22 2 = nI na) (ho : o < 40) (hna : na ≤ 40) (hb : gB G ≤ b) (hd : 3 ≤ d) : VM G mX11_has d 0 0 [.ref (b + 0), .int (nI q), .int (nI t), .int v] (xE (some (.int (S 18 q ^^^ 1 <<< (nI t &&& 31)))) (wH G b tbC (up2 (actKeep S 22 17 o na) 18 q (S 18 q ^^^ 1 <<< (nI t &&& 31))) h0)) (wH G b tbC S h0) := by
  obtain ⟨hsh, hn, h12, hg, hp, h8, hr, h7, hbb, hb8⟩ := id ci
  have hs := shC_or (S 0 9)
  have hS := tbC_shore (S 0 9)
  rw [hsh] at hs hS
  obtain ⟨a0, a1, a2, a3, a4, a5, a6, a7⟩ := id hS
  obtain ⟨i0, i1, i2, i3⟩ := id a2
  obtain ⟨r0, r1, r2⟩ := id a3
  refine VM_start (ls := [some (.ref (b + 0)), some (.int (nI q)), some (.int (nI t)), some (.int v)]) rfl ?_
  -- %m X11_has
  refine V_aload_n (pc := 0) (i := 0) dX11_has_0 rfl rfl ?_
  refine V_iload_n (pc := 1) (i := 1) dX11_has_1 rfl rfl ?_
  refine V_V1v (pc := 2) dX11_has_2 cX11_188 (by first | assumption | rfl) (X11_mustBePerson_ok (d := 0) hsh hp h8 hq) (Nat.le_of_ble_eq_true rfl) (by omega) (Nat.le_of_ble_eq_true rfl) ?_
  refine V_iload_n (pc := 5) (i := 2) dX11_has_5 rfl rfl ?_
  refine V_S1v (pc := 6) dX11_has_6 cX11_161 (X11_mustBeThing_ok (d := 0) ht) (Nat.le_of_ble_eq_true rfl) (by omega) (Nat.le_of_ble_eq_true rfl) ?_
  refine V_iload_n (pc := 9) (i := 2) dX11_has_9 rfl rfl ?_
  refine V_aload_n (pc := 10) (i := 0) dX11_has_10 rfl rfl ?_
  refine VW_getR (pc := 11) dX11_has_11 fX11_19 (by first | assumption | rfl) rfl ?_
  refine VW_getR (pc := 14) dX11_has_14 fX11_191 (by first | assumption | rfl) rfl ?_
  refine V_iload_n (pc := 17) (i := 1) dX11_has_17 rfl rfl ?_
  refine VW_ialdN (pc := 18) dX11_has_18 (by first | assumption | rfl) rfl (by omega) (by first | decide | omega) ?_
  refine V_S2i (pc := 19) dX11_has_19 cX11_182 (X11_isIn (d := 0) _ _) (Nat.le_of_ble_eq_true rfl) (by omega) (Nat.le_of_ble_eq_true rfl) ?_
  refine V_iload_n (pc := 22) (i := 3) dX11_has_22 rfl rfl ?_
  refine V_icmp_ne (pc := 23) 31 dX11_has_23 rfl (fun c23 => ?_) (fun c23 => ?_)
  · refine V_aload_n (pc := 31) (i := 0) dX11_has_31 rfl rfl ?_
    refine VW_getR (pc := 32) dX11_has_32 fX11_26 (by first | assumption | rfl) rfl ?_
    refine V_aload_n (pc := 35) (i := 0) dX11_has_35 rfl rfl ?_
    refine VW_getR (pc := 36) dX11_has_36 fX11_19 (by first | assumption | rfl) rfl ?_
    refine V_V1v (pc := 39) dX11_has_39 cX11_230 (by first | assumption | rfl) (X0_keep (d := 2) tbC_22 tbC_17 (by decide) h1 h2 ho hna hb (by omega)) (Nat.le_of_ble_eq_true rfl) (by omega) (Nat.le_of_ble_eq_true rfl) ?_
    refine V_aload_n (pc := 42) (i := 0) dX11_has_42 rfl rfl ?_
    refine VW_getR (pc := 43) dX11_has_43 fX11_19 (by first | assumption | rfl) rfl ?_
    refine VW_getR (pc := 46) dX11_has_46 fX11_191 (by first | assumption | rfl) rfl ?_
    refine V_iload_n (pc := 49) (i := 1) dX11_has_49 rfl rfl ?_
    refine V_dup2 (pc := 50) dX11_has_50 rfl rfl ?_
    refine VW_ialdN (pc := 51) dX11_has_51 (by first | assumption | rfl) rfl (by omega) (by first | decide | omega) ?_
    rw [actKeep_off (by decide) (by decide)]
    refine V_iconst (pc := 52) (v := 1) dX11_has_52 (by decide) ?_
    refine V_iload_n (pc := 53) (i := 2) dX11_has_53 rfl rfl ?_
    refine V_ishl (pc := 54) dX11_has_54 ?_
    refine V_ixor (pc := 55) dX11_has_55 ?_
    refine VW_iastN (pc := 56) dX11_has_56 (by first | assumption | rfl) (by assumption) rfl (by omega) (by first | decide | omega) ?_
    refine V_aload_n (pc := 57) (i := 0) dX11_has_57 rfl rfl ?_
    refine VW_getR (pc := 58) dX11_has_58 fX11_19 (by first | assumption | rfl) rfl ?_
    refine VW_getR (pc := 61) dX11_has_61 fX11_191 (by first | assumption | rfl) rfl ?_
    refine V_iload_n (pc := 64) (i := 1) dX11_has_64 rfl rfl ?_
    refine VW_ialdN (pc := 65) dX11_has_65 (by first | assumption | rfl) rfl (by omega) (by first | decide | omega) ?_
    rw [up2_same]
    exact VE_iret (pc := 66) dX11_has_66 rfl rfl rfl
  · exact absurd c23 hv
theorem X11_miss_no {s n pp r bb : Nat} (ci : RI S s n pp r bb) {q t : Nat} (hq : q < pp) (ht : t < 10) (hv : S 19 q = nI t) (hb : gB G ≤ b) (hd : 1 ≤ d) : VM G mX11_miss d 0 0 [.ref (b + 0), .int (nI q), .int (nI t)] (xE (some (.int (-1))) (wH G b tbC (up2 S 27 1 (S 27 1 + 1)) h0)) (wH G b tbC S h0) := by
  obtain ⟨hsh, hn, h12, hg, hp, h8, hr, h7, hbb, hb8⟩ := id ci
  have hs := shC_or (S 0 9)
  have hS := tbC_shore (S 0 9)
  rw [hsh] at hs hS
  obtain ⟨a0, a1, a2, a3, a4, a5, a6, a7⟩ := id hS
  obtain ⟨i0, i1, i2, i3⟩ := id a2
  obtain ⟨r0, r1, r2⟩ := id a3
  refine VM_start (ls := [some (.ref (b + 0)), some (.int (nI q)), some (.int (nI t)), none]) rfl ?_
  -- %m X11_miss
  refine V_aload_n (pc := 0) (i := 0) dX11_miss_0 rfl rfl ?_
  refine V_iload_n (pc := 1) (i := 1) dX11_miss_1 rfl rfl ?_
  refine V_V1v (pc := 2) dX11_miss_2 cX11_188 (by first | assumption | rfl) (X11_mustBePerson_ok (d := 0) hsh hp h8 hq) (Nat.le_of_ble_eq_true rfl) (by omega) (Nat.le_of_ble_eq_true rfl) ?_
  refine V_iload_n (pc := 5) (i := 2) dX11_miss_5 rfl rfl ?_
  refine V_S1v (pc := 6) dX11_miss_6 cX11_161 (X11_mustBeThing_ok (d := 0) ht) (Nat.le_of_ble_eq_true rfl) (by omega) (Nat.le_of_ble_eq_true rfl) ?_
  refine V_aload_n (pc := 9) (i := 0) dX11_miss_9 rfl rfl ?_
  refine VW_getR (pc := 10) dX11_miss_10 fX11_19 (by first | assumption | rfl) rfl ?_
  refine VW_getR (pc := 13) dX11_miss_13 fX11_194 (by first | assumption | rfl) rfl ?_
  refine V_iload_n (pc := 16) (i := 1) dX11_miss_16 rfl rfl ?_
  refine VW_ialdN (pc := 17) dX11_miss_17 (by first | assumption | rfl) rfl (by omega) (by first | decide | omega) ?_
  refine V_istore_n (pc := 18) (i := 3) dX11_miss_18 rfl (by decide) rfl ?_
  refine V_iload_n (pc := 19) (i := 3) dX11_miss_19 rfl rfl ?_
  refine V_iload_n (pc := 20) (i := 2) dX11_miss_20 rfl rfl ?_
  refine V_icmp_ne (pc := 21) 29 dX11_miss_21 rfl (fun c21 => ?_) (fun c21 => ?_)
  · exact absurd hv c21
  · refine V_aload_n (pc := 24) (i := 0) dX11_miss_24 rfl rfl ?_
    refine V_V0i (pc := 25) dX11_miss_25 cX11_226 (by first | assumption | rfl) (X11_refuseAct (d := 0) hb) (Nat.le_of_ble_eq_true rfl) (by omega) (Nat.le_of_ble_eq_true rfl) ?_
    exact VE_iret (pc := 28) dX11_miss_28 rfl rfl rfl
theorem X11_miss_ok {s n pp r bb : Nat} (ci : RI S s n pp r bb) {q t : Nat} (hq : q < pp) (ht : t < 10) (hv : ¬ S 19 q = nI t) {o na : Nat} (h1 : S 22 1 = nI o) (h2 : S 22 2 = nI na) (ho : o < 40) (hna : na ≤ 40) (hb : gB G ≤ b) (hd : 3 ≤ d) : VM G mX11_miss d 0 0 [.ref (b + 0), .int (nI q), .int (nI t)] (xE (some (.int (S 19 q))) (wH G b tbC (up2 (actKeep S 22 17 o na) 19 q (nI t)) h0)) (wH G b tbC S h0) := by
  obtain ⟨hsh, hn, h12, hg, hp, h8, hr, h7, hbb, hb8⟩ := id ci
  have hs := shC_or (S 0 9)
  have hS := tbC_shore (S 0 9)
  rw [hsh] at hs hS
  obtain ⟨a0, a1, a2, a3, a4, a5, a6, a7⟩ := id hS
  obtain ⟨i0, i1, i2, i3⟩ := id a2
  obtain ⟨r0, r1, r2⟩ := id a3
  refine VM_start (ls := [some (.ref (b + 0)), some (.int (nI q)), some (.int (nI t)), none]) rfl ?_
  -- %m X11_miss
  refine V_aload_n (pc := 0) (i := 0) dX11_miss_0 rfl rfl ?_
  refine V_iload_n (pc := 1) (i := 1) dX11_miss_1 rfl rfl ?_
  refine V_V1v (pc := 2) dX11_miss_2 cX11_188 (by first | assumption | rfl) (X11_mustBePerson_ok (d := 0) hsh hp h8 hq) (Nat.le_of_ble_eq_true rfl) (by omega) (Nat.le_of_ble_eq_true rfl) ?_
  refine V_iload_n (pc := 5) (i := 2) dX11_miss_5 rfl rfl ?_
  refine V_S1v (pc := 6) dX11_miss_6 cX11_161 (X11_mustBeThing_ok (d := 0) ht) (Nat.le_of_ble_eq_true rfl) (by omega) (Nat.le_of_ble_eq_true rfl) ?_
  refine V_aload_n (pc := 9) (i := 0) dX11_miss_9 rfl rfl ?_
  refine VW_getR (pc := 10) dX11_miss_10 fX11_19 (by first | assumption | rfl) rfl ?_
  refine VW_getR (pc := 13) dX11_miss_13 fX11_194 (by first | assumption | rfl) rfl ?_
  refine V_iload_n (pc := 16) (i := 1) dX11_miss_16 rfl rfl ?_
  refine VW_ialdN (pc := 17) dX11_miss_17 (by first | assumption | rfl) rfl (by omega) (by first | decide | omega) ?_
  refine V_istore_n (pc := 18) (i := 3) dX11_miss_18 rfl (by decide) rfl ?_
  refine V_iload_n (pc := 19) (i := 3) dX11_miss_19 rfl rfl ?_
  refine V_iload_n (pc := 20) (i := 2) dX11_miss_20 rfl rfl ?_
  refine V_icmp_ne (pc := 21) 29 dX11_miss_21 rfl (fun c21 => ?_) (fun c21 => ?_)
  · refine V_aload_n (pc := 29) (i := 0) dX11_miss_29 rfl rfl ?_
    refine VW_getR (pc := 30) dX11_miss_30 fX11_26 (by first | assumption | rfl) rfl ?_
    refine V_aload_n (pc := 33) (i := 0) dX11_miss_33 rfl rfl ?_
    refine VW_getR (pc := 34) dX11_miss_34 fX11_19 (by first | assumption | rfl) rfl ?_
    refine V_V1v (pc := 37) dX11_miss_37 cX11_230 (by first | assumption | rfl) (X0_keep (d := 2) tbC_22 tbC_17 (by decide) h1 h2 ho hna hb (by omega)) (Nat.le_of_ble_eq_true rfl) (by omega) (Nat.le_of_ble_eq_true rfl) ?_
    refine V_aload_n (pc := 40) (i := 0) dX11_miss_40 rfl rfl ?_
    refine VW_getR (pc := 41) dX11_miss_41 fX11_19 (by first | assumption | rfl) rfl ?_
    refine VW_getR (pc := 44) dX11_miss_44 fX11_194 (by first | assumption | rfl) rfl ?_
    refine V_iload_n (pc := 47) (i := 1) dX11_miss_47 rfl rfl ?_
    refine V_iload_n (pc := 48) (i := 2) dX11_miss_48 rfl rfl ?_
    refine VW_iastN (pc := 49) dX11_miss_49 (by first | assumption | rfl) (by assumption) rfl (by omega) (by first | decide | omega) ?_
    refine V_iload_n (pc := 50) (i := 3) dX11_miss_50 rfl rfl ?_
    exact VE_iret (pc := 51) dX11_miss_51 rfl rfl rfl
  · exact absurd c21 hv
theorem X11_deny_no {s n pp r bb : Nat} (ci : RI S s n pp r bb) {q : Nat} (hq : q < n) {v : Int32} (hv : b2i (hasB (S 17 4) (nI q)) = v) (hb : gB G ≤ b) (hd : 1 ≤ d) : VM G mX11_deny d 0 0 [.ref (b + 0), .int (nI q), .int v] (xE (some (.int (0))) (wH G b tbC (up2 S 27 1 (S 27 1 + 1)) h0)) (wH G b tbC S h0) := by
  obtain ⟨hsh, hn, h12, hg, hp, h8, hr, h7, hbb, hb8⟩ := id ci
  have hs := shC_or (S 0 9)
  have hS := tbC_shore (S 0 9)
  rw [hsh] at hs hS
  obtain ⟨a0, a1, a2, a3, a4, a5, a6, a7⟩ := id hS
  obtain ⟨i0, i1, i2, i3⟩ := id a2
  obtain ⟨r0, r1, r2⟩ := id a3
  refine VM_start (ls := [some (.ref (b + 0)), some (.int (nI q)), some (.int v)]) rfl ?_
  -- %m X11_deny
  refine V_aload_n (pc := 0) (i := 0) dX11_deny_0 rfl rfl ?_
  refine V_iload_n (pc := 1) (i := 1) dX11_deny_1 rfl rfl ?_
  refine V_V1v (pc := 2) dX11_deny_2 cX11_167 (by first | assumption | rfl) (X11_mustBeIf_ok (d := 0) hsh hn h12 hq) (Nat.le_of_ble_eq_true rfl) (by omega) (Nat.le_of_ble_eq_true rfl) ?_
  refine V_iload_n (pc := 5) (i := 1) dX11_deny_5 rfl rfl ?_
  refine V_aload_n (pc := 6) (i := 0) dX11_deny_6 rfl rfl ?_
  refine VW_getR (pc := 7) dX11_deny_7 fX11_19 (by first | assumption | rfl) rfl ?_
  refine VW_getI (pc := 10) dX11_deny_10 fX11_139 (by first | assumption | rfl) rfl ?_
  refine V_S2i (pc := 13) dX11_deny_13 cX11_182 (X11_isIn (d := 0) _ _) (Nat.le_of_ble_eq_true rfl) (by omega) (Nat.le_of_ble_eq_true rfl) ?_
  refine V_iload_n (pc := 16) (i := 2) dX11_deny_16 rfl rfl ?_
  refine V_icmp_ne (pc := 17) 27 dX11_deny_17 rfl (fun c17 => ?_) (fun c17 => ?_)
  · exact absurd hv c17
  · refine V_aload_n (pc := 20) (i := 0) dX11_deny_20 rfl rfl ?_
    refine V_V0i (pc := 21) dX11_deny_21 cX11_226 (by first | assumption | rfl) (X11_refuseAct (d := 0) hb) (Nat.le_of_ble_eq_true rfl) (by omega) (Nat.le_of_ble_eq_true rfl) ?_
    refine V_pop (pc := 24) dX11_deny_24 rfl ?_
    refine V_iconst (pc := 25) (v := 0) dX11_deny_25 (by decide) ?_
    exact VE_zret (pc := 26) dX11_deny_26 rfl (Or.inl rfl) rfl rfl
theorem X11_deny_ok {s n pp r bb : Nat} (ci : RI S s n pp r bb) {q : Nat} (hq : q < n) {v : Int32} (hv : ¬ b2i (hasB (S 17 4) (nI q)) = v) {o na : Nat} (h1 : S 22 1 = nI o) (h2 : S 22 2 = nI na) (ho : o < 40) (hna : na ≤ 40) (hb : gB G ≤ b) (hd : 3 ≤ d) : VM G mX11_deny d 0 0 [.ref (b + 0), .int (nI q), .int v] (xE (some (.int (1))) (wH G b tbC (up2 (actKeep S 22 17 o na) 17 4 (S 17 4 ^^^ 1 <<< (nI q &&& 31))) h0)) (wH G b tbC S h0) := by
  obtain ⟨hsh, hn, h12, hg, hp, h8, hr, h7, hbb, hb8⟩ := id ci
  have hs := shC_or (S 0 9)
  have hS := tbC_shore (S 0 9)
  rw [hsh] at hs hS
  obtain ⟨a0, a1, a2, a3, a4, a5, a6, a7⟩ := id hS
  obtain ⟨i0, i1, i2, i3⟩ := id a2
  obtain ⟨r0, r1, r2⟩ := id a3
  refine VM_start (ls := [some (.ref (b + 0)), some (.int (nI q)), some (.int v)]) rfl ?_
  -- %m X11_deny
  refine V_aload_n (pc := 0) (i := 0) dX11_deny_0 rfl rfl ?_
  refine V_iload_n (pc := 1) (i := 1) dX11_deny_1 rfl rfl ?_
  refine V_V1v (pc := 2) dX11_deny_2 cX11_167 (by first | assumption | rfl) (X11_mustBeIf_ok (d := 0) hsh hn h12 hq) (Nat.le_of_ble_eq_true rfl) (by omega) (Nat.le_of_ble_eq_true rfl) ?_
  refine V_iload_n (pc := 5) (i := 1) dX11_deny_5 rfl rfl ?_
  refine V_aload_n (pc := 6) (i := 0) dX11_deny_6 rfl rfl ?_
  refine VW_getR (pc := 7) dX11_deny_7 fX11_19 (by first | assumption | rfl) rfl ?_
  refine VW_getI (pc := 10) dX11_deny_10 fX11_139 (by first | assumption | rfl) rfl ?_
  refine V_S2i (pc := 13) dX11_deny_13 cX11_182 (X11_isIn (d := 0) _ _) (Nat.le_of_ble_eq_true rfl) (by omega) (Nat.le_of_ble_eq_true rfl) ?_
  refine V_iload_n (pc := 16) (i := 2) dX11_deny_16 rfl rfl ?_
  refine V_icmp_ne (pc := 17) 27 dX11_deny_17 rfl (fun c17 => ?_) (fun c17 => ?_)
  · refine V_aload_n (pc := 27) (i := 0) dX11_deny_27 rfl rfl ?_
    refine VW_getR (pc := 28) dX11_deny_28 fX11_26 (by first | assumption | rfl) rfl ?_
    refine V_aload_n (pc := 31) (i := 0) dX11_deny_31 rfl rfl ?_
    refine VW_getR (pc := 32) dX11_deny_32 fX11_19 (by first | assumption | rfl) rfl ?_
    refine V_V1v (pc := 35) dX11_deny_35 cX11_230 (by first | assumption | rfl) (X0_keep (d := 2) tbC_22 tbC_17 (by decide) h1 h2 ho hna hb (by omega)) (Nat.le_of_ble_eq_true rfl) (by omega) (Nat.le_of_ble_eq_true rfl) ?_
    refine V_aload_n (pc := 38) (i := 0) dX11_deny_38 rfl rfl ?_
    refine VW_getR (pc := 39) dX11_deny_39 fX11_19 (by first | assumption | rfl) rfl ?_
    refine V_dup (pc := 42) dX11_deny_42 rfl ?_
    refine VW_getI (pc := 43) dX11_deny_43 fX11_139 (by first | assumption | rfl) rfl ?_
    rw [actKeep_off (by decide) (by decide)]
    refine V_iconst (pc := 46) (v := 1) dX11_deny_46 (by decide) ?_
    refine V_iload_n (pc := 47) (i := 1) dX11_deny_47 rfl rfl ?_
    refine V_ishl (pc := 48) dX11_deny_48 ?_
    refine V_ixor (pc := 49) dX11_deny_49 ?_
    refine VW_putI (pc := 50) dX11_deny_50 fX11_139 ftX8 (fpI rfl rfl (tyX8_ok 4 (by decide))) (by first | assumption | rfl) rfl (by assumption) ?_
    refine V_iconst (pc := 53) (v := 1) dX11_deny_53 (by decide) ?_
    exact VE_zret (pc := 54) dX11_deny_54 rfl (Or.inr rfl) rfl rfl
  · exact absurd c17 hv
theorem X11_bridge_no {s n pp r bb : Nat} (ci : RI S s n pp r bb) {x : Int32} (hx : x < 1 ∨ 8 < x) (hb : gB G ≤ b) (hd : 1 ≤ d) : VM G mX11_bridge d 0 0 [.ref (b + 0), .int x] (xE (some (.int (-1))) (wH G b tbC (up2 S 27 1 (S 27 1 + 1)) h0)) (wH G b tbC S h0) := by
  obtain ⟨hsh, hn, h12, hg, hp, h8, hr, h7, hbb, hb8⟩ := id ci
  have hs := shC_or (S 0 9)
  have hS := tbC_shore (S 0 9)
  rw [hsh] at hs hS
  obtain ⟨a0, a1, a2, a3, a4, a5, a6, a7⟩ := id hS
  obtain ⟨i0, i1, i2, i3⟩ := id a2
  obtain ⟨r0, r1, r2⟩ := id a3
  refine VM_start (ls := [some (.ref (b + 0)), some (.int x), none]) rfl ?_
  -- %m X11_bridge
  refine V_iload_n (pc := 0) (i := 1) dX11_bridge_0 rfl rfl ?_
  refine V_iconst (pc := 1) (v := 1) dX11_bridge_1 (by decide) ?_
  refine V_icmp_lt (pc := 2) 11 dX11_bridge_2 rfl (fun c2 => ?_) (fun c2 => ?_)
  · refine V_aload_n (pc := 11) (i := 0) dX11_bridge_11 rfl rfl ?_
    refine V_V0i (pc := 12) dX11_bridge_12 cX11_226 (by first | assumption | rfl) (X11_refuseAct (d := 0) hb) (Nat.le_of_ble_eq_true rfl) (by omega) (Nat.le_of_ble_eq_true rfl) ?_
    exact VE_iret (pc := 15) dX11_bridge_15 rfl rfl rfl
  · refine V_iload_n (pc := 5) (i := 1) dX11_bridge_5 rfl rfl ?_
    refine V_bipush (pc := 6) (v := 8) dX11_bridge_6 (by decide) ?_
    refine V_icmp_le (pc := 8) 16 dX11_bridge_8 rfl (fun c8 => ?_) (fun c8 => ?_)
    · exact absurd (hx.resolve_left c2) (Int32.not_lt.mpr c8)
    · refine V_aload_n (pc := 11) (i := 0) dX11_bridge_11 rfl rfl ?_
      refine V_V0i (pc := 12) dX11_bridge_12 cX11_226 (by first | assumption | rfl) (X11_refuseAct (d := 0) hb) (Nat.le_of_ble_eq_true rfl) (by omega) (Nat.le_of_ble_eq_true rfl) ?_
      exact VE_iret (pc := 15) dX11_bridge_15 rfl rfl rfl
theorem X11_bridge_ok {s n pp r bb : Nat} (ci : RI S s n pp r bb) {k : Nat} (hk1 : 1 ≤ k) (hk : k ≤ 8) {o na : Nat} (h1 : S 22 1 = nI o) (h2 : S 22 2 = nI na) (ho : o < 40) (hna : na ≤ 40) (hb : gB G ≤ b) (hd : 3 ≤ d) : VM G mX11_bridge d 0 0 [.ref (b + 0), .int (nI k)] (xE (some (.int (S 17 5))) (wH G b tbC (up2 (actKeep S 22 17 o na) 17 5 (nI k)) h0)) (wH G b tbC S h0) := by
  obtain ⟨hsh, hn, h12, hg, hp, h8, hr, h7, hbb, hb8⟩ := id ci
  have hs := shC_or (S 0 9)
  have hS := tbC_shore (S 0 9)
  rw [hsh] at hs hS
  obtain ⟨a0, a1, a2, a3, a4, a5, a6, a7⟩ := id hS
  obtain ⟨i0, i1, i2, i3⟩ := id a2
  obtain ⟨r0, r1, r2⟩ := id a3
  refine VM_start (ls := [some (.ref (b + 0)), some (.int (nI k)), none]) rfl ?_
  -- %m X11_bridge
  refine V_iload_n (pc := 0) (i := 1) dX11_bridge_0 rfl rfl ?_
  refine V_iconst (pc := 1) (v := 1) dX11_bridge_1 (by decide) ?_
  refine V_icmp_lt (pc := 2) 11 dX11_bridge_2 rfl (fun c2 => ?_) (fun c2 => ?_)
  · exact absurd c2 (nI_nlt (b := 1) hk1 (by omega))
  · refine V_iload_n (pc := 5) (i := 1) dX11_bridge_5 rfl rfl ?_
    refine V_bipush (pc := 6) (v := 8) dX11_bridge_6 (by decide) ?_
    refine V_icmp_le (pc := 8) 16 dX11_bridge_8 rfl (fun c8 => ?_) (fun c8 => ?_)
    · refine V_aload_n (pc := 16) (i := 0) dX11_bridge_16 rfl rfl ?_
      refine VW_getR (pc := 17) dX11_bridge_17 fX11_19 (by first | assumption | rfl) rfl ?_
      refine VW_getI (pc := 20) dX11_bridge_20 fX11_130 (by first | assumption | rfl) rfl ?_
      refine V_istore_n (pc := 23) (i := 2) dX11_bridge_23 rfl (by decide) rfl ?_
      refine V_aload_n (pc := 24) (i := 0) dX11_bridge_24 rfl rfl ?_
      refine VW_getR (pc := 25) dX11_bridge_25 fX11_26 (by first | assumption | rfl) rfl ?_
      refine V_aload_n (pc := 28) (i := 0) dX11_bridge_28 rfl rfl ?_
      refine VW_getR (pc := 29) dX11_bridge_29 fX11_19 (by first | assumption | rfl) rfl ?_
      refine V_V1v (pc := 32) dX11_bridge_32 cX11_230 (by first | assumption | rfl) (X0_keep (d := 2) tbC_22 tbC_17 (by decide) h1 h2 ho hna hb (by omega)) (Nat.le_of_ble_eq_true rfl) (by omega) (Nat.le_of_ble_eq_true rfl) ?_
      refine V_aload_n (pc := 35) (i := 0) dX11_bridge_35 rfl rfl ?_
      refine VW_getR (pc := 36) dX11_bridge_36 fX11_19 (by first | assumption | rfl) rfl ?_
      refine V_iload_n (pc := 39) (i := 1) dX11_bridge_39 rfl rfl ?_
      refine VW_putI (pc := 40) dX11_bridge_40 fX11_130 ftX8 (fpI rfl rfl (tyX8_ok 5 (by decide))) (by first | assumption | rfl) rfl (by assumption) ?_
      refine V_iload_n (pc := 43) (i := 2) dX11_bridge_43 rfl rfl ?_
      exact VE_iret (pc := 44) dX11_bridge_44 rfl rfl rfl
    · exact absurd (nI_le (b := 8) hk (by decide)) c8
theorem X11_undo_no {s n pp r bb : Nat} (ci : RI S s n pp r bb) (h2 : S 22 2 = 0) (hb : gB G ≤ b) (hd : 1 ≤ d) : VM G mX11_undo d 0 0 [.ref (b + 0)] (xE (some (.int (-1))) (wH G b tbC (S) h0)) (wH G b tbC S h0) := by
  obtain ⟨hsh, hn, h12, hg, hp, h8, hr, h7, hbb, hb8⟩ := id ci
  have hs := shC_or (S 0 9)
  have hS := tbC_shore (S 0 9)
  rw [hsh] at hs hS
  obtain ⟨a0, a1, a2, a3, a4, a5, a6, a7⟩ := id hS
  obtain ⟨i0, i1, i2, i3⟩ := id a2
  obtain ⟨r0, r1, r2⟩ := id a3
  refine VM_start (ls := [some (.ref (b + 0))]) rfl ?_
  -- %m X11_undo
  refine V_aload_n (pc := 0) (i := 0) dX11_undo_0 rfl rfl ?_
  refine VW_getR (pc := 1) dX11_undo_1 fX11_26 (by first | assumption | rfl) rfl ?_
  refine V_aload_n (pc := 4) (i := 0) dX11_undo_4 rfl rfl ?_
  refine VW_getR (pc := 5) dX11_undo_5 fX11_19 (by first | assumption | rfl) rfl ?_
  refine V_V1i (pc := 8) dX11_undo_8 cX11_243 (by first | assumption | rfl) (X0_takeBack_none (d := 0) tbC_22 h2 17) (Nat.le_of_ble_eq_true rfl) (by omega) (Nat.le_of_ble_eq_true rfl) ?_
  refine V_if_eq (pc := 11) 24 dX11_undo_11 rfl (fun c11 => ?_) (fun c11 => ?_)
  · refine V_iconst (pc := 24) (v := -1) dX11_undo_24 (by decide) ?_
    exact VE_iret (pc := 25) dX11_undo_25 rfl rfl rfl
  · exact absurd rfl c11
theorem X11_undo_ok {s n pp r bb : Nat} (ci : RI S s n pp r bb) {o na : Nat} (h1 : S 22 1 = nI o) (h2 : S 22 2 = nI (na + 1)) (ho : o < 40) (hna : na < 40) (hb : gB G ≤ b) (hd : 3 ≤ d) : VM G mX11_undo d 0 0 [.ref (b + 0)] (xE (some (.int (nI na))) (wH G b tbC (actBack S 22 17 o na) h0)) (wH G b tbC S h0) := by
  obtain ⟨hsh, hn, h12, hg, hp, h8, hr, h7, hbb, hb8⟩ := id ci
  have hs := shC_or (S 0 9)
  have hS := tbC_shore (S 0 9)
  rw [hsh] at hs hS
  obtain ⟨a0, a1, a2, a3, a4, a5, a6, a7⟩ := id hS
  obtain ⟨i0, i1, i2, i3⟩ := id a2
  obtain ⟨r0, r1, r2⟩ := id a3
  refine VM_start (ls := [some (.ref (b + 0))]) rfl ?_
  -- %m X11_undo
  refine V_aload_n (pc := 0) (i := 0) dX11_undo_0 rfl rfl ?_
  refine VW_getR (pc := 1) dX11_undo_1 fX11_26 (by first | assumption | rfl) rfl ?_
  refine V_aload_n (pc := 4) (i := 0) dX11_undo_4 rfl rfl ?_
  refine VW_getR (pc := 5) dX11_undo_5 fX11_19 (by first | assumption | rfl) rfl ?_
  refine V_V1i (pc := 8) dX11_undo_8 cX11_243 (by first | assumption | rfl) (X0_takeBack (d := 2) tbC_22 tbC_17 (by decide) h1 h2 ho hna hb (by omega)) (Nat.le_of_ble_eq_true rfl) (by omega) (Nat.le_of_ble_eq_true rfl) ?_
  refine V_if_eq (pc := 11) 24 dX11_undo_11 rfl (fun c11 => ?_) (fun c11 => ?_)
  · exact absurd c11 (by decide)
  · refine V_aload_n (pc := 14) (i := 0) dX11_undo_14 rfl rfl ?_
    refine VW_getR (pc := 15) dX11_undo_15 fX11_26 (by first | assumption | rfl) rfl ?_
    refine VW_getI (pc := 18) dX11_undo_18 fX11_152 (by first | assumption | rfl) rfl ?_
    rw [actBack, stRd_off (by decide), up2_same, ← actBack]
    refine V_goto (pc := 21) 25 dX11_undo_21 rfl ?_
    exact VE_iret (pc := 25) dX11_undo_25 rfl rfl rfl
end Face1
