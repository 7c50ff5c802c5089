/-! ===== both readers side by side: NOTS, a part, EXPRS within EXPRS ===== -/
section P7
variable {G : xG} {d : Nat} {b : Nat} {S S1 S2 S3 T T1 T2 T3 U Z : Nat → Nat → Int32} {h0 h : xH} {t w : Nat}
/-- k NOTS are gone over -/
def NtI (S T S1 T1 : Nat → Nat → Int32) (t k : Nat) : Prop := RTk S1 T1 ∧ T1 0 23 = 0 ∧ EX T T1 ∧ T1 3 = T 3 ∧ T1 13 = T 13 ∧ S1 (t + 6) = S (t + 6) ∧ S1 (t + 7) = S (t + 7) ∧ tP S + k ≤ tP S1
theorem NtI.pre {k : Nat} (p : Pre S T t) (n : NtI S T S1 T1 t k) : Pre S1 T1 t := by
  obtain ⟨a1, a2, a4, r, b1, b2, b3, b4⟩ := p
  obtain ⟨n1, n2, n3, n4, n5, n6, n7, n8⟩ := n
  exact ⟨n1, n2, a4, r, by rw [n4]; exact b1, by rw [n6]; exact b2, by omega, fun i hi => by rw [n5, n7]; exact b4 i hi⟩
theorem NtI.base {k D : Nat} (p : Pre S T t) (n : NtI S T S1 T1 t k) (x : XOk D S1 T1 S2 T2 t) : XOk D S T S2 T2 t ∧ ∃ r0 r2, T 3 7 = nI r0 ∧ r0 ≤ 700 ∧ T2 3 7 = nI r2 ∧ r2 ≤ 700 ∧ r2 + k + tP S ≤ r0 + tP S2 ∧ r2 + k ≤ tP S2 := by
  obtain ⟨n1, n2, n3, n4, n5, n6, n7, n8⟩ := n
  obtain ⟨q1, q2, q4, r, q5, q6, q7, q8⟩ := p
  obtain ⟨a1, a2, a3, a4, r0, r1, b1, b2, b3, b4, b5, b6, b7, b8, b9, b10⟩ := x
  have h7 := tP7 a1
  have h70 := tP7 q1
  have e0 : r0 = r := (nI_eq (by omega) (by omega)).mp (by rw [← b1, n4, q5])
  subst e0
  refine ⟨⟨a1, a2, n3.trans a3, a4, r0, r1, q5, b2, b3, b4, b5, by omega, b7, fun i hi => by rw [b8 i hi, n5], b9, b10⟩, r0, r1, q5, b2, b3, by omega, by omega, by omega⟩
theorem X12_readNot_lay {k : Nat} (hk : k ≤ 6) (hb : gB G ≤ b) {Q : xR → xH → Prop} (x : Int32) (hd : 1 ≤ d) : ∀ (m j r : Nat) (T1 : Nat → Nat → Int32), m + j = k → T1 3 7 = nI r → r + m ≤ 700 → T1 0 23 = 0 → Q (.inl none) (wH G b tbM (layN m r T1) h0) → V G mX12_readNot d 0 0 Q 95 [some (.ref (b + 0)), some (.int x), some (.int (nI k)), some (.int (nI j))] [] (wH G b tbM T1 h0) := by
  intro m
  -- %m X12_readNot
  induction m with
  | zero =>
    intro j r T1 hm hr h7 h0' hq
    refine V_iload_n (pc := 95) (i := 3) dX12_readNot_95 rfl rfl ?_
    refine V_iload_n (pc := 96) (i := 2) dX12_readNot_96 rfl rfl ?_
    refine V_icmp_ge (pc := 97) 112 dX12_readNot_97 rfl (fun c97 => ?_) (fun c97 => ?_)
    · exact V_vret (pc := 112) dX12_readNot_112 rfl hq
    · exact absurd (nI_le (by omega) (by omega)) c97
  | succ m ih =>
    intro j r T1 hm hr h7 h0' hq
    refine V_iload_n (pc := 95) (i := 3) dX12_readNot_95 rfl rfl ?_
    refine V_iload_n (pc := 96) (i := 2) dX12_readNot_96 rfl rfl ?_
    refine V_icmp_ge (pc := 97) 112 dX12_readNot_97 rfl (fun c97 => ?_) (fun c97 => ?_)
    · exact absurd c97 (nI_ge (by omega) (by omega))
    · refine V_aload_n (pc := 100) (i := 0) dX12_readNot_100 rfl rfl ?_
      refine V_bipush (pc := 101) (v := -28) dX12_readNot_101 (by decide) ?_
      refine V_V1v (pc := 103) dX12_readNot_103 cX12_226 (by first | assumption | rfl) (X12_lay (d := 0) hr (by omega) h0' _ hb) (Nat.le_of_ble_eq_true rfl) (by omega) (Nat.le_of_ble_eq_true rfl) ?_
      refine V_iinc (pc := 106) dX12_readNot_106 (by decide) rfl rfl (iincN (n := 1) (by decide)) ?_
      refine V_goto (pc := 109) 95 dX12_readNot_109 rfl ?_
      exact ih (j + 1) (r + 1) _ (by omega) (by unfold layS; rw [up2_same]) (by omega) (by rw [layS_0]; exact h0') hq
theorem X12_readNot {D dd : Nat} {R : (Nat → Nat → Int32) → Bool × (Nat → Nat → Int32)} (hC : XC G b h0 mX12_readSum D dd w t R) (hdd : 4 ≤ dd) (hb : gB G ≤ b) : XC G b h0 mX12_readNot (D + 1) (dd + 1) w t (fun S => rowR t 2 R 1 (ntF 6 0 S)) := by
  intro S T d hd p
  refine VM_start (ls := [some (.ref (b + 0)), some (.int (nI w)), none, none]) rfl ?_
  have p1 := p.1
  show V G mX12_readNot d 0 0 (xXm G b h0 (XQ (D + 1) S T t (rowR t 2 R 1 (ntF 6 0 S)))) 0 _ _ _
  -- %m X12_readNot
  have out : ∀ (k : Nat) (T' : Nat → Nat → Int32) (Q : xR → xH → Prop), k ≤ 6 → ¬ T' 0 23 = 0 → Q (.inl none) (wH G b tbM T' h0) → V G mX12_readNot d 0 0 Q 93 [some (.ref (b + 0)), some (.int (nI w)), some (.int (nI k)), none] [] (wH G b tbM T' h0) := by
    intro k T' Q hk h0' hq
    refine V_iconst (pc := 93) (v := 0) dX12_readNot_93 (by decide) ?_
    refine V_istore_n (pc := 94) (i := 3) dX12_readNot_94 rfl (by decide) rfl ?_
    exact X12_readNot_end (j := 0) h0' _ none (by omega) (by omega) hq k 0 rfl
  -- behind the NOTS
  have part2 : ∀ (k : Nat) (S1 T1 : Nat → Nat → Int32), k ≤ 6 → NtI S T S1 T1 t k → V G mX12_readNot d 0 0 (xXm G b h0 (XQ (D + 1) S T t (rowR t 2 R 1 (nI k, S1)))) 39 [some (.ref (b + 0)), some (.int (nI w)), some (.int (nI k)), none] [] (wH G b tbM T1 h0) := by
    intro k S1 T1 hk n
    have eR : rowR t 2 R 1 (nI k, S1) = if (R S1).1 then (if (opsF t 2 R 1 (R S1).2).1 then (true, notF t k (opsF t 2 R 1 (R S1).2).2) else (false, (opsF t 2 R 1 (R S1).2).2)) else (false, (R S1).2) := by
      unfold rowR
      rw [if_neg (show ¬ nI k = -1 from nI_m1 (by omega)), show ((nI k, S1) : Int32 × (Nat → Nat → Int32)).1.toNatClampNeg = k from nI_clamp (by omega)]
    rw [eR]
    have fin : ∀ (S4 T4 : Nat → Nat → Int32), XOk (D + 1) S1 T1 S4 T4 t → V G mX12_readNot d 0 0 (xXm G b h0 (XQ (D + 1) S T t (true, notF t k S4))) 93 [some (.ref (b + 0)), some (.int (nI w)), some (.int (nI k)), none] [] (wH G b tbM T4 h0) := by
      intro S4 T4 x
      obtain ⟨x2, r0, r2, z1, z2, z3, z4, z5, z6⟩ := n.base p x
      have h7 := tP7 x.1
      refine V_iconst (pc := 93) (v := 0) dX12_readNot_93 (by decide) ?_
      refine V_istore_n (pc := 94) (i := 3) dX12_readNot_94 rfl (by decide) rfl ?_
      exact X12_readNot_lay hk hb _ (by omega) k 0 r2 T4 rfl z3 (by omega) x.2.1 ⟨rfl, _, rfl, XQ_t rfl (XOk_not k S4 T4 r0 r2 x2 z1 z2 z3 z4 z5 z6)⟩
    refine V_aload_n (pc := 39) (i := 0) dX12_readNot_39 rfl rfl ?_
    refine V_iload_n (pc := 40) (i := 1) dX12_readNot_40 rfl rfl ?_
    refine V_X1 (pc := 41) dX12_readNot_41 cX12_247 rfl (hC S1 T1 dd (Nat.le_refl _) (n.pre p)) (Nat.le_of_ble_eq_true rfl) (by omega) (Nat.le_of_ble_eq_true rfl) (fun T2 q2 => ?_)
    rcases XQ_E q2 with ⟨e, y⟩ | ⟨e, y, ey⟩
    · rw [if_pos e]
      have x : XOk (D + 1) S1 T1 (R S1).2 T2 t := y.mono (by omega)
      generalize (R S1).2 = S2 at x y ⊢
      have hop : opH S2 2 = if sgn S2 60 then 10010 else if sgn S2 61 then 10011 else -1 := rfl
      have one : ∀ op : Int32, opH S2 2 = op → binO op → ¬ S2 2 6 = 0 → ¬ op = -1 → V G mX12_readNot d 0 0 (xXm G b h0 (XQ (D + 1) S T t (if (opsF t 2 R 1 S2).1 then (true, notF t k (opsF t 2 R 1 S2).2) else (false, (opsF t 2 R 1 S2).2)))) 78 [some (.ref (b + 0)), some (.int (nI w)), some (.int (nI k)), none] [.int (cmS op)] (wH G b tbM T2 h0) := by
        intro op ho hbin hk2 hne
        obtain ⟨p2, lt2⟩ := Pre_adv x.pre hk2
        have eO : opsF t 2 R 1 S2 = if (R (adv S2)).1 then (true, raS (R (adv S2)).2 t op) else (false, (R (adv S2)).2) := by
          rw [opsF, ho, if_neg hne]
          rfl
        refine V_istore_n (pc := 78) (i := 3) dX12_readNot_78 rfl (by decide) rfl ?_
        refine V_aload_n (pc := 79) (i := 0) dX12_readNot_79 rfl rfl ?_
        refine V_V0v (pc := 80) dX12_readNot_80 cX12_217 (by first | assumption | rfl) (X12_step (d := 1) x.1.2.1 hb (by omega)) (Nat.le_of_ble_eq_true rfl) (by omega) (Nat.le_of_ble_eq_true rfl) ?_
        refine V_aload_n (pc := 83) (i := 0) dX12_readNot_83 rfl rfl ?_
        refine V_iload_n (pc := 84) (i := 1) dX12_readNot_84 rfl rfl ?_
        refine V_X1 (pc := 85) dX12_readNot_85 cX12_247 rfl (hC (adv S2) (mAd S2 T2) dd (Nat.le_refl _) p2) (Nat.le_of_ble_eq_true rfl) (by omega) (Nat.le_of_ble_eq_true rfl) (fun T3 q3 => ?_)
        rcases XQ_E q3 with ⟨e, y3⟩ | ⟨e, y3, ey3⟩
        · obtain ⟨r3, k1, k2, k3⟩ := XOk_op x hk2 y3 (Nat.le_refl _) hbin
          rw [if_pos e] at eO
          rw [eO, if_pos rfl]
          refine V_aload_n (pc := 88) (i := 0) dX12_readNot_88 rfl rfl ?_
          refine V_iload_n (pc := 89) (i := 3) dX12_readNot_89 rfl rfl ?_
          refine V_V1v (pc := 90) dX12_readNot_90 cX12_226 (by first | assumption | rfl) (X12_lay (d := 0) k1 k2 y3.2.1 _ hb) (Nat.le_of_ble_eq_true rfl) (by omega) (Nat.le_of_ble_eq_true rfl) ?_
          exact V_forget 3 (fin _ _ k3)
        · rw [if_neg (by rw [e]; decide)] at eO
          rw [eO, if_neg (by intro z; cases z)]
          refine V_aload_n (pc := 88) (i := 0) dX12_readNot_88 rfl rfl ?_
          refine V_iload_n (pc := 89) (i := 3) dX12_readNot_89 rfl rfl ?_
          refine V_V1v (pc := 90) dX12_readNot_90 cX12_226 (by first | assumption | rfl) (X12_lay_bad (d := 0) y3.1 _) (Nat.le_of_ble_eq_true rfl) (by omega) (Nat.le_of_ble_eq_true rfl) ?_
          exact V_forget 3 (out k _ _ hk y3.1 ⟨rfl, T3, rfl, XQ_f rfl y3 (((n.2.2.1.trans x.2.2.1).trans EX_step).trans ey3)⟩)
      refine V_aload_n (pc := 44) (i := 0) dX12_readNot_44 rfl rfl ?_
      refine V_bipush (pc := 45) (v := 60) dX12_readNot_45 (by decide) ?_
      refine V_V1i (pc := 47) dX12_readNot_47 cX12_210 (by first | assumption | rfl) (X12_isMarked (d := 0) x.1.2.1 x.2.1 _) (Nat.le_of_ble_eq_true rfl) (by omega) (Nat.le_of_ble_eq_true rfl) ?_
      rw [← RTk_sgn x.1]
      refine V_if_ne (pc := 50) 62 dX12_readNot_50 rfl (fun c50 => ?_) (fun c50 => ?_)
      · have s1 : sgn S2 60 = true := b2i_n0.mp c50
        refine V_aload_n (pc := 62) (i := 0) dX12_readNot_62 rfl rfl ?_
        refine V_bipush (pc := 63) (v := 60) dX12_readNot_63 (by decide) ?_
        refine V_V1i (pc := 65) dX12_readNot_65 cX12_210 (by first | assumption | rfl) (X12_isMarked (d := 0) x.1.2.1 x.2.1 _) (Nat.le_of_ble_eq_true rfl) (by omega) (Nat.le_of_ble_eq_true rfl) ?_
        rw [← RTk_sgn x.1]
        refine V_if_eq (pc := 68) 76 dX12_readNot_68 rfl (fun c => absurd c c50) (fun _ => ?_)
        refine V_bipush (pc := 71) (v := -24) dX12_readNot_71 (by decide) ?_
        refine V_goto (pc := 73) 78 dX12_readNot_73 rfl ?_
        exact one 10010 (by rw [hop, if_pos s1]) (by unfold binO; simp) (fun q => by unfold sgn at s1; rw [q] at s1; simp at s1) (by decide)
      · have s1 : sgn S2 60 = false := b2i_0.mp c50
        refine V_aload_n (pc := 53) (i := 0) dX12_readNot_53 rfl rfl ?_
        refine V_bipush (pc := 54) (v := 61) dX12_readNot_54 (by decide) ?_
        refine V_V1i (pc := 56) dX12_readNot_56 cX12_210 (by first | assumption | rfl) (X12_isMarked (d := 0) x.1.2.1 x.2.1 _) (Nat.le_of_ble_eq_true rfl) (by omega) (Nat.le_of_ble_eq_true rfl) ?_
        rw [← RTk_sgn x.1]
        refine V_if_eq (pc := 59) 93 dX12_readNot_59 rfl (fun c59 => ?_) (fun c59 => ?_)
        · have s2 : sgn S2 61 = false := b2i_0.mp c59
          have e : opH S2 2 = -1 := by rw [hop, s1, s2]; rfl
          rw [show opsF t 2 R 1 S2 = (true, S2) by rw [opsF, if_pos e], if_pos rfl]
          exact fin _ _ x
        · have s2 : sgn S2 61 = true := b2i_n0.mp c59
          refine V_aload_n (pc := 62) (i := 0) dX12_readNot_62 rfl rfl ?_
          refine V_bipush (pc := 63) (v := 60) dX12_readNot_63 (by decide) ?_
          refine V_V1i (pc := 65) dX12_readNot_65 cX12_210 (by first | assumption | rfl) (X12_isMarked (d := 0) x.1.2.1 x.2.1 _) (Nat.le_of_ble_eq_true rfl) (by omega) (Nat.le_of_ble_eq_true rfl) ?_
          rw [← RTk_sgn x.1]
          refine V_if_eq (pc := 68) 76 dX12_readNot_68 rfl (fun _ => ?_) (fun c => absurd c50 c)
          refine V_bipush (pc := 76) (v := -25) dX12_readNot_76 (by decide) ?_
          exact one 10011 (by rw [hop, s1, s2]; rfl) (by unfold binO; simp) (fun q => by unfold sgn at s2; rw [q] at s2; simp at s2) (by decide)
    · rw [if_neg (by rw [e]; decide)]
      refine V_aload_n (pc := 44) (i := 0) dX12_readNot_44 rfl rfl ?_
      refine V_bipush (pc := 45) (v := 60) dX12_readNot_45 (by decide) ?_
      refine V_V1i (pc := 47) dX12_readNot_47 cX12_210 (by first | assumption | rfl) (X12_isMarked_bad (d := 0) y.1 _) (Nat.le_of_ble_eq_true rfl) (by omega) (Nat.le_of_ble_eq_true rfl) ?_
      refine V_if_ne (pc := 50) 62 dX12_readNot_50 rfl (fun c => absurd rfl c) (fun _ => ?_)
      refine V_aload_n (pc := 53) (i := 0) dX12_readNot_53 rfl rfl ?_
      refine V_bipush (pc := 54) (v := 61) dX12_readNot_54 (by decide) ?_
      refine V_V1i (pc := 56) dX12_readNot_56 cX12_210 (by first | assumption | rfl) (X12_isMarked_bad (d := 0) y.1 _) (Nat.le_of_ble_eq_true rfl) (by omega) (Nat.le_of_ble_eq_true rfl) ?_
      refine V_if_eq (pc := 59) 93 dX12_readNot_59 rfl (fun _ => ?_) (fun c => absurd rfl c)
      exact out k _ _ hk y.1 ⟨rfl, T2, rfl, XQ_f rfl y (n.2.2.1.trans ey)⟩
  have loop : ∀ (m k : Nat) (S1 T1 : Nat → Nat → Int32), m + k = 6 → NtI S T S1 T1 t k → V G mX12_readNot d 0 0 (xXm G b h0 (XQ (D + 1) S T t (rowR t 2 R 1 (ntF m k S1)))) 2 [some (.ref (b + 0)), some (.int (nI w)), some (.int (nI k)), none] [] (wH G b tbM T1 h0) := by
    intro m
    induction m with
    | zero =>
      intro k S1 T1 hm n
      rw [ntF]
      refine V_aload_n (pc := 2) (i := 0) dX12_readNot_2 rfl rfl ?_
      refine V_ldcS (pc := 3) (i := 37) dX12_readNot_3 rfl ?_
      refine V_V1i (pc := 5) dX12_readNot_5 cX12_206 (by first | assumption | rfl) (X12_is (d := 4) rfl n.1.2.1 n.2.1 (by omega)) (Nat.le_of_ble_eq_true rfl) (by omega) (Nat.le_of_ble_eq_true rfl) ?_
      refine V_if_eq (pc := 8) 39 dX12_readNot_8 rfl (fun c8 => ?_) (fun c8 => ?_)
      · have s : wrd S1 lNot = false := by rw [RTk_wrd n.1]; exact b2i_0.mp c8
        rw [if_neg (by rw [s]; decide)]
        exact part2 k S1 T1 (by omega) n
      · have s : wrd S1 lNot = true := by rw [RTk_wrd n.1]; exact b2i_n0.mp c8
        rw [if_pos s, show rowR t 2 R 1 (-1, rfs S1 2) = (false, rfs S1 2) by unfold rowR; rw [if_pos rfl]]
        have e6 : k = 6 := by omega
        subst e6
        refine V_iload_n (pc := 11) (i := 2) dX12_readNot_11 rfl rfl ?_
        refine V_bipush (pc := 12) (v := 6) dX12_readNot_12 (by decide) ?_
        refine V_icmp_ne (pc := 14) 22 dX12_readNot_14 rfl (fun c => absurd rfl c) (fun _ => ?_)
        refine V_aload_n (pc := 17) (i := 0) dX12_readNot_17 rfl rfl ?_
        refine V_iconst (pc := 18) (v := 2) dX12_readNot_18 (by decide) ?_
        refine V_V1v (pc := 19) dX12_readNot_19 cX12_213 (by first | assumption | rfl) (X12_wrong_ok (d := 0) n.2.1 _ hb) (Nat.le_of_ble_eq_true rfl) (by omega) (Nat.le_of_ble_eq_true rfl) ?_
        refine V_iinc (pc := 22) dX12_readNot_22 (by decide) rfl rfl (iincN (n := 1) (by decide)) ?_
        refine V_aload_n (pc := 25) (i := 0) dX12_readNot_25 rfl rfl ?_
        refine VW_getI (pc := 26) dX12_readNot_26 fX12_192 (by first | assumption | rfl) rfl ?_
        refine V_if_ne (pc := 29) 2 dX12_readNot_29 rfl (fun _ => ?_) (fun c => absurd c (wrg_23 (k := 2) (by decide)))
        refine V_aload_n (pc := 2) (i := 0) dX12_readNot_2 rfl rfl ?_
        refine V_ldcS (pc := 3) (i := 37) dX12_readNot_3 rfl ?_
        refine V_V1i (pc := 5) dX12_readNot_5 cX12_206 (by first | assumption | rfl) (X12_is_bad (d := 0) (wrg_23 (k := 2) (by decide))) (Nat.le_of_ble_eq_true rfl) (by omega) (Nat.le_of_ble_eq_true rfl) ?_
        refine V_if_eq (pc := 8) 39 dX12_readNot_8 rfl (fun _ => ?_) (fun c => absurd rfl c)
        exact X12_readNot_39 (k := 7) (wrg_23 (k := 2) (by decide)) _ (by decide) (by omega) ⟨rfl, _, rfl, XQ_f rfl (RB_wrg n.1 (by decide)) (n.2.2.1.trans EX_wrg)⟩
    | succ m ih =>
      intro k S1 T1 hm n
      rw [ntF]
      refine V_aload_n (pc := 2) (i := 0) dX12_readNot_2 rfl rfl ?_
      refine V_ldcS (pc := 3) (i := 37) dX12_readNot_3 rfl ?_
      refine V_V1i (pc := 5) dX12_readNot_5 cX12_206 (by first | assumption | rfl) (X12_is (d := 4) rfl n.1.2.1 n.2.1 (by omega)) (Nat.le_of_ble_eq_true rfl) (by omega) (Nat.le_of_ble_eq_true rfl) ?_
      refine V_if_eq (pc := 8) 39 dX12_readNot_8 rfl (fun c8 => ?_) (fun c8 => ?_)
      · have s : wrd S1 lNot = false := by rw [RTk_wrd n.1]; exact b2i_0.mp c8
        rw [if_neg (by rw [s]; decide)]
        exact part2 k S1 T1 (by omega) n
      · have s : wrd S1 lNot = true := by rw [RTk_wrd n.1]; exact b2i_n0.mp c8
        rw [if_pos s]
        have hk2 : ¬ S1 2 6 = 0 := fun q => by unfold wrd at s; rw [q] at s; simp at s
        have l1 := RTk_lt n.1 hk2
        have l2 := adv_P n.1
        refine V_iload_n (pc := 11) (i := 2) dX12_readNot_11 rfl rfl ?_
        refine V_bipush (pc := 12) (v := 6) dX12_readNot_12 (by decide) ?_
        refine V_icmp_ne (pc := 14) 22 dX12_readNot_14 rfl (fun _ => ?_) (fun c => absurd ((nI_eq (b := 6) (by omega) (by decide)).mp c) (by omega))
        refine V_iinc (pc := 22) dX12_readNot_22 (by decide) rfl rfl (iincN (n := 1) (by decide)) ?_
        refine V_aload_n (pc := 25) (i := 0) dX12_readNot_25 rfl rfl ?_
        refine VW_getI (pc := 26) dX12_readNot_26 fX12_192 (by first | assumption | rfl) rfl ?_
        refine V_if_ne (pc := 29) 2 dX12_readNot_29 rfl (fun c => absurd n.2.1 c) (fun _ => ?_)
        refine V_aload_n (pc := 32) (i := 0) dX12_readNot_32 rfl rfl ?_
        refine V_V0v (pc := 33) dX12_readNot_33 cX12_217 (by first | assumption | rfl) (X12_step (d := 1) n.1.2.1 hb (by omega)) (Nat.le_of_ble_eq_true rfl) (by omega) (Nat.le_of_ble_eq_true rfl) ?_
        refine V_goto (pc := 36) 2 dX12_readNot_36 rfl ?_
        obtain ⟨n1, n2, n3, n4, n5, n6, n7, n8⟩ := n
        have ht := p.2.2.1
        exact ih (k + 1) (adv S1) (mAd S1 T1) (by omega) ⟨RTk_adv n1, by unfold mAd; rw [mStep_0 (by omega)]; exact n2, n3.trans EX_step, by unfold mAd; rw [mStep_off (by decide)]; exact n4, by unfold mAd; rw [mStep_off (by decide)]; exact n5, by rw [adv_off (by omega)]; exact n6, by rw [adv_off (by omega)]; exact n7, by omega⟩
  refine V_iconst (pc := 0) (v := 0) dX12_readNot_0 (by decide) ?_
  refine V_istore_n (pc := 1) (i := 2) dX12_readNot_1 rfl (by decide) rfl ?_
  exact loop 6 0 S T rfl ⟨p1, p.2.1, EX.rfl', rfl, rfl, rfl, rfl, by omega⟩
/-- one more on the stack, one TOKEN gone over -/
theorem XOk_val {D : Nat} {v : Int32} (p : Pre S T t) (hk : ¬ S 2 6 = 0) (hD : 1 ≤ D) (v1 : ¬ cmS v ≤ -20) (v2 : -7 ≤ cmS v) : ∃ r, T 3 7 = nI r ∧ r < 700 ∧ XOk D S T (adv (raS S t v)) (layS (mAd S T) r (cmS v)) t := by
  obtain ⟨⟨a1, a2, a4, r', b1, b2, b3, b4⟩, lt⟩ := Pre_adv p hk
  obtain ⟨q1, q2, q4, r9, q5, q6, q7, q8⟩ := p
  have h7 := tP7 q1
  have hl := RTk_lt q1 hk
  have h72 := tP7 a1
  have er' : r' = r9 := (nI_eq (by omega) (by omega)).mp (b1.symm.trans (by unfold mAd; rw [mStep_off (by decide)]; exact q5))
  subst er'
  have hra := raS_r (x := v) q6 (show r' < 700 by omega)
  have e2 : raS S t v 2 = S 2 := raS_off (by omega) (by omega)
  have e3 : raS S t v 3 = S 3 := raS_off (by omega) (by omega)
  have ea2 : adv (raS S t v) 2 = adv S 2 := by
    unfold adv advS
    have eL : tL (raS S t v) = tL S := by unfold tL; rw [e2]
    have eE : tE (raS S t v) = tE S := by unfold tE; rw [e2]
    rw [eL, eE, e3]
    funext j
    by_cases j1 : j = 2
    · subst j1; rw [up2_same, up2_same]
    · rw [up2_col j1, up2_col j1]
      by_cases j2 : j = 6
      · subst j2; rw [up2_same, up2_same]
      · rw [up2_col j2, up2_col j2]
        by_cases j3 : j = 3
        · subst j3; rw [up2_same, up2_same]
        · rw [up2_col j3, up2_col j3]
          by_cases j4 : j = 5
          · subst j4; rw [up2_same, up2_same]
          · rw [up2_col j4, up2_col j4, e2]
  have eP : tP (adv (raS S t v)) = tP (adv S) := by unfold tP; rw [ea2]
  refine ⟨r', q5, by omega, RTk_of a1 ea2 (by rw [adv_off (by decide), adv_off (by decide), e3]) (fun j _ _ => by rw [layS_0]) layS_15, by rw [layS_0]; exact a2, EX_step.trans EX_lay, q4, r', r' + 1, q5, by omega, by unfold layS; rw [up2_same], by rw [adv_off (by omega), hra, up2_same], by omega, by rw [eP]; omega, by rw [eP]; omega, ?_, ?_, ?_⟩
  · intro i hi
    unfold layS mAd
    rw [up2_row (by decide), up2_col (by omega), mStep_off (by decide)]
  · intro i hi
    rw [adv_off (by omega), hra, up2_row (by omega)]
    unfold layS mAd
    rw [up2_row (by decide)]
    by_cases e : i = r'
    · subst e; rw [up2_same, up2_same]
    · rw [up2_col (by omega), up2_col e, mStep_off (by decide)]
      exact q8 i (by omega)
  · intro x hx
    have e : layS (mAd S T) r' (cmS v) 13 (700 + r') = cmS v := by unfold layS; rw [up2_row (by decide), up2_same]
    rw [show r' + 1 - r' = 1 by omega, dpF]
    simp only [e]
    rw [if_neg v1, if_pos ⟨v2, by omega⟩, dpF]
theorem step_lay {r L p : Nat} {x : Int32} : mStep (layS T r x) L p = layS (mStep T L p) r x := by
  have e0 : stR (layS T r x) L p = stR T L p := by unfold stR; rw [layS_0, layS_15]
  unfold mStep
  rw [e0]
  funext k
  by_cases h0 : k = 0
  · subst h0; rw [upR_same, layS_0, upR_same]
  · rw [upR_row h0]
    unfold layS
    by_cases h3 : k = 3
    · subst h3
      funext j
      by_cases e : j = 7
      · subst e; rw [up2_same, up2_same]
      · rw [up2_col e, up2_col e, up2_row (by decide), up2_row (by decide), upR_row (by decide)]
    · rw [up2_row h3, up2_row h3]
      by_cases h13 : k = 13
      · subst h13
        funext j
        by_cases e : j = 700 + r
        · subst e; rw [up2_same, up2_same]
        · rw [up2_col e, up2_col e, upR_row (by decide)]
      · rw [up2_row h13, up2_row h13, upR_row h0]
theorem RTk_vl (h : RTk S T) : (vlH S = -1 ∧ mVl T (tL S) (tP S) (tE S) = -1) ∨ ∃ k, k < 7 ∧ vlH S = nI (10000 + k) ∧ mVl T (tL S) (tP S) (tE S) = nI k := by
  unfold vlH mVl
  rw [RTk_wrd h, RTk_wrd h, RTk_wrd h, RTk_wrd h, RTk_wrd h, RTk_wrd h, RTk_wrd h]
  split
  · exact Or.inr ⟨0, by decide, rfl, rfl⟩
  · split
    · exact Or.inr ⟨1, by decide, rfl, rfl⟩
    · split
      · exact Or.inr ⟨2, by decide, rfl, rfl⟩
      · split
        · exact Or.inr ⟨3, by decide, rfl, rfl⟩
        · split
          · exact Or.inr ⟨4, by decide, rfl, rfl⟩
          · split
            · exact Or.inr ⟨5, by decide, rfl, rfl⟩
            · split
              · exact Or.inr ⟨6, by decide, rfl, rfl⟩
              · exact Or.inl ⟨rfl, rfl⟩
theorem cm_v : ∀ k, k < 7 → cmS (nI (10000 + k)) = -1 - nI k ∧ ¬ cmS (nI (10000 + k)) ≤ -20 ∧ -7 ≤ cmS (nI (10000 + k)) ∧ ¬ nI (10000 + k) = -1 ∧ ¬ nI k = -1 := by decide +kernel
theorem cm_n {v : Nat} (h : v < 10000) : cmS (nI v) = nI v ∧ ¬ cmS (nI v) ≤ -20 ∧ -7 ≤ cmS (nI v) := by
  have e : cmS (nI v) = nI v := by
    unfold cmS
    rw [if_neg (Int32.not_lt.mpr (nI_pos' (by omega))), if_pos (show nI v ≤ 9999 from nI_le (b := 9999) (by omega) (by decide))]
  rw [e]
  have h0 : (0 : Int32) ≤ nI v := nI_pos' (by omega)
  refine ⟨rfl, fun q => ?_, Int32.le_trans (by decide) h0⟩
  exact absurd (Int32.le_trans h0 q) (by decide)
/-- behind a parenthesis -/
theorem XOk_par {D : Nat} (p : Pre S T t) (hk : ¬ S 2 6 = 0) (y : XOk D (adv S) (mAd S T) S2 T2 t) (hk2 : ¬ S2 2 6 = 0) : XOk D S T (adv S2) (mAd S2 T2) t := by
  obtain ⟨p2, lt⟩ := Pre_adv p hk
  obtain ⟨p3, lt3⟩ := Pre_adv y.pre hk2
  obtain ⟨a1, a2, a4, r, b1, b2, b3, b4⟩ := p
  obtain ⟨c1, c2, c3, c4, q, r3, d1, d2, d3, d4, d5, d6, d7, d8, d9, d10⟩ := y
  obtain ⟨f1, f2, f4, f5⟩ := p3
  have h7 := tP7 a1
  have e0 : q = r := (nI_eq (by omega) (by omega)).mp (d1.symm.trans (by unfold mAd; rw [mStep_off (by decide)]; exact b1))
  subst e0
  have e13 : mAd S2 T2 13 = T2 13 := by unfold mAd; rw [mStep_off (by decide)]
  refine ⟨f1, f2, (EX_step.trans c3).trans EX_step, a4, q, r3, b1, d2, by unfold mAd; rw [mStep_off (by decide)]; exact d3, by rw [adv_off (by omega)]; exact d4, d5, by omega, by omega, ?_, ?_, ?_⟩
  · intro i hi
    rw [e13, d8 i hi]
    unfold mAd
    rw [mStep_off (by decide)]
  · intro i hi
    rw [e13, adv_off (by omega)]
    exact d9 i hi
  · rw [e13]
    exact d10
theorem X12_readPart {D dd : Nat} {X : (Nat → Nat → Int32) → Bool × (Nat → Nat → Int32)} (hX : XC G b h0 mX12_readExpression D dd (w + 1) t X) (hD : 1 ≤ D) (hdd : 6 ≤ dd) (hb : gB G ≤ b) : XC G b h0 mX12_readPart D (dd + 1) w t (partF t X) := by
  intro S T d hd p
  refine VM_start (ls := [some (.ref (b + 0)), some (.int (nI w)), none]) rfl ?_
  have p1 := p.1
  unfold partF
  -- %m X12_readPart
  refine V_aload_n (pc := 0) (i := 0) dX12_readPart_0 rfl rfl ?_
  refine VW_getI (pc := 1) dX12_readPart_1 fX12_192 (by first | assumption | rfl) rfl ?_
  refine V_if_eq (pc := 4) 8 dX12_readPart_4 rfl (fun _ => ?_) (fun c => absurd p.2.1 c)
  refine V_aload_n (pc := 8) (i := 0) dX12_readPart_8 rfl rfl ?_
  refine VW_getI (pc := 9) dX12_readPart_9 fX12_166 (by first | assumption | rfl) rfl ?_
  refine V_iconst (pc := 12) (v := 2) dX12_readPart_12 (by decide) ?_
  refine V_icmp_ne (pc := 13) 29 dX12_readPart_13 rfl (fun c13 => ?_) (fun c13 => ?_)
  · have n2 : ¬ S 2 6 = 2 := fun q => c13 (p1.2.2.1.symm.trans q)
    rw [if_neg n2]
    refine V_aload_n (pc := 29) (i := 0) dX12_readPart_29 rfl rfl ?_
    refine VW_getI (pc := 30) dX12_readPart_30 fX12_166 (by first | assumption | rfl) rfl ?_
    refine V_iconst (pc := 33) (v := 1) dX12_readPart_33 (by decide) ?_
    refine V_icmp_ne (pc := 34) 75 dX12_readPart_34 rfl (fun c34 => ?_) (fun c34 => ?_)
    · have n1 : ¬ S 2 6 = 1 := fun q => c34 (p1.2.2.1.symm.trans q)
      rw [if_neg n1]
      have eS : mMk T (tP S) 40 = sgn S 40 := (RTk_sgn p1).symm
      have km := X12_mark (G := G) (d := 2) (b := b) (h0 := h0) p1.2.1 p.2.1 40 hb (by omega)
      rw [eS] at km
      cases s : sgn S 40 with
      | true =>
        rw [s, if_pos rfl] at km
        have eT : tkS S 40 = (true, adv S) := by unfold tkS; rw [if_pos s]
        rw [eT, if_pos rfl]
        have hk : ¬ S 2 6 = 0 := fun q => by unfold sgn at s; rw [q] at s; simp at s
        obtain ⟨p2, lt2⟩ := Pre_adv p hk
        refine V_aload_n (pc := 75) (i := 0) dX12_readPart_75 rfl rfl ?_
        refine V_bipush (pc := 76) (v := 40) dX12_readPart_76 (by decide) ?_
        refine V_V1v (pc := 78) dX12_readPart_78 cX12_233 (by first | assumption | rfl) km (Nat.le_of_ble_eq_true rfl) (by omega) (Nat.le_of_ble_eq_true rfl) ?_
        refine V_aload_n (pc := 81) (i := 0) dX12_readPart_81 rfl rfl ?_
        refine V_iload_n (pc := 82) (i := 1) dX12_readPart_82 rfl rfl ?_
        refine V_iconst (pc := 83) (v := 1) dX12_readPart_83 (by decide) ?_
        refine V_iadd (pc := 84) dX12_readPart_84 ?_
        rw [nI_1]
        refine V_X1 (pc := 85) dX12_readPart_85 cX12_236 rfl (hX (adv S) (mAd S T) dd (Nat.le_refl _) p2) (Nat.le_of_ble_eq_true rfl) (by omega) (Nat.le_of_ble_eq_true rfl) (fun T2 q2 => ?_)
        rcases XQ_E q2 with ⟨e, y⟩ | ⟨e, y, ey⟩
        · rw [if_pos e]
          have km2 := X12_mark (G := G) (d := 2) (b := b) (h0 := h0) y.1.2.1 y.2.1 41 hb (by omega)
          rw [← RTk_sgn y.1] at km2
          have eT2 : tkS (X (adv S)).2 41 = if sgn (X (adv S)).2 41 then (true, adv (X (adv S)).2) else (false, rfs (X (adv S)).2 1) := rfl
          cases s2 : sgn (X (adv S)).2 41 with
          | true =>
            rw [s2, if_pos rfl] at km2
            rw [s2, if_pos rfl] at eT2
            rw [show tkS (X (true, adv S).2).2 41 = (true, adv (X (adv S)).2) from eT2]
            refine V_aload_n (pc := 88) (i := 0) dX12_readPart_88 rfl rfl ?_
            refine V_bipush (pc := 89) (v := 41) dX12_readPart_89 (by decide) ?_
            refine V_V1v (pc := 91) dX12_readPart_91 cX12_233 (by first | assumption | rfl) km2 (Nat.le_of_ble_eq_true rfl) (by omega) (Nat.le_of_ble_eq_true rfl) ?_
            exact VX_ret (pc := 94) dX12_readPart_94 rfl (XQ_t rfl (XOk_par p hk y (fun q => by unfold sgn at s2; rw [q] at s2; simp at s2)))
          | false =>
            rw [s2, if_neg (by decide)] at km2
            rw [s2, if_neg (by decide)] at eT2
            rw [show tkS (X (true, adv S).2).2 41 = (false, rfs (X (adv S)).2 1) from eT2]
            refine V_aload_n (pc := 88) (i := 0) dX12_readPart_88 rfl rfl ?_
            refine V_bipush (pc := 89) (v := 41) dX12_readPart_89 (by decide) ?_
            refine V_V1v (pc := 91) dX12_readPart_91 cX12_233 (by first | assumption | rfl) km2 (Nat.le_of_ble_eq_true rfl) (by omega) (Nat.le_of_ble_eq_true rfl) ?_
            exact VX_ret (pc := 94) dX12_readPart_94 rfl (XQ_f rfl (RB_wrg y.1 (by decide)) ((EX_step.trans y.2.2.1).trans EX_wrg))
        · rw [if_neg (by rw [show (X (true, adv S).2).1 = false from e]; decide)]
          refine V_aload_n (pc := 88) (i := 0) dX12_readPart_88 rfl rfl ?_
          refine V_bipush (pc := 89) (v := 41) dX12_readPart_89 (by decide) ?_
          refine V_V1v (pc := 91) dX12_readPart_91 cX12_233 (by first | assumption | rfl) (X12_mark_bad (d := 0) y.1 _) (Nat.le_of_ble_eq_true rfl) (by omega) (Nat.le_of_ble_eq_true rfl) ?_
          exact VX_ret (pc := 94) dX12_readPart_94 rfl (XQ_f rfl y (EX_step.trans ey))
      | false =>
        rw [s, if_neg (by decide)] at km
        have eT : tkS S 40 = (false, rfs S 1) := by unfold tkS; rw [if_neg (by rw [s]; decide)]
        rw [eT, if_neg (by intro z; cases z)]
        refine V_aload_n (pc := 75) (i := 0) dX12_readPart_75 rfl rfl ?_
        refine V_bipush (pc := 76) (v := 40) dX12_readPart_76 (by decide) ?_
        refine V_V1v (pc := 78) dX12_readPart_78 cX12_233 (by first | assumption | rfl) km (Nat.le_of_ble_eq_true rfl) (by omega) (Nat.le_of_ble_eq_true rfl) ?_
        refine V_aload_n (pc := 81) (i := 0) dX12_readPart_81 rfl rfl ?_
        refine V_iload_n (pc := 82) (i := 1) dX12_readPart_82 rfl rfl ?_
        refine V_iconst (pc := 83) (v := 1) dX12_readPart_83 (by decide) ?_
        refine V_iadd (pc := 84) dX12_readPart_84 ?_
        refine V_V1v (pc := 85) dX12_readPart_85 cX12_236 (by first | assumption | rfl) (X12_readExpression_bad (d := 0) (wrg_23 (k := 1) (by decide)) _) (Nat.le_of_ble_eq_true rfl) (by omega) (Nat.le_of_ble_eq_true rfl) ?_
        refine V_aload_n (pc := 88) (i := 0) dX12_readPart_88 rfl rfl ?_
        refine V_bipush (pc := 89) (v := 41) dX12_readPart_89 (by decide) ?_
        refine V_V1v (pc := 91) dX12_readPart_91 cX12_233 (by first | assumption | rfl) (X12_mark_bad (d := 0) (wrg_23 (k := 1) (by decide)) _) (Nat.le_of_ble_eq_true rfl) (by omega) (Nat.le_of_ble_eq_true rfl) ?_
        exact VX_ret (pc := 94) dX12_readPart_94 rfl (XQ_f rfl (RB_wrg p1 (by decide)) EX_wrg)
    · have n1 : S 2 6 = 1 := p1.2.2.1.trans c34
      rw [if_pos n1]
      refine V_aload_n (pc := 37) (i := 0) dX12_readPart_37 rfl rfl ?_
      refine V_aload_n (pc := 38) (i := 0) dX12_readPart_38 rfl rfl ?_
      refine VW_getR (pc := 39) dX12_readPart_39 fX12_33 (by first | assumption | rfl) rfl ?_
      refine V_V1i (pc := 42) dX12_readPart_42 cX12_229 (by first | assumption | rfl) (X12_whichV (d := 5) p1.2.1 p.2.1 (by omega)) (Nat.le_of_ble_eq_true rfl) (by omega) (Nat.le_of_ble_eq_true rfl) ?_
      rcases RTk_vl p1 with ⟨v1, v2⟩ | ⟨k, hk7, v1, v2⟩
      · rw [v1, v2, if_pos rfl]
        refine V_istore_n (pc := 45) (i := 2) dX12_readPart_45 rfl (by decide) rfl ?_
        refine V_iload_n (pc := 46) (i := 2) dX12_readPart_46 rfl rfl ?_
        refine V_iconst (pc := 47) (v := -1) dX12_readPart_47 (by decide) ?_
        refine V_icmp_ne (pc := 48) 56 dX12_readPart_48 rfl (fun c => absurd rfl c) (fun _ => ?_)
        refine V_aload_n (pc := 51) (i := 0) dX12_readPart_51 rfl rfl ?_
        refine V_iconst (pc := 52) (v := 3) dX12_readPart_52 (by decide) ?_
        refine V_V1v (pc := 53) dX12_readPart_53 cX12_213 (by first | assumption | rfl) (X12_wrong_ok (d := 0) p.2.1 _ hb) (Nat.le_of_ble_eq_true rfl) (by omega) (Nat.le_of_ble_eq_true rfl) ?_
        refine V_aload_n (pc := 56) (i := 0) dX12_readPart_56 rfl rfl ?_
        refine V_iconst (pc := 57) (v := -1) dX12_readPart_57 (by decide) ?_
        refine V_iload_n (pc := 58) (i := 2) dX12_readPart_58 rfl rfl ?_
        refine V_isub (pc := 59) dX12_readPart_59 ?_
        refine V_V1v (pc := 60) dX12_readPart_60 cX12_226 (by first | assumption | rfl) (X12_lay_bad (d := 0) (wrg_23 (k := 3) (by decide)) _) (Nat.le_of_ble_eq_true rfl) (by omega) (Nat.le_of_ble_eq_true rfl) ?_
        refine V_aload_n (pc := 63) (i := 0) dX12_readPart_63 rfl rfl ?_
        refine VW_getI (pc := 64) dX12_readPart_64 fX12_192 (by first | assumption | rfl) rfl ?_
        refine V_if_ne (pc := 67) 74 dX12_readPart_67 rfl (fun _ => ?_) (fun c => absurd c (wrg_23 (k := 3) (by decide)))
        exact VX_ret (pc := 74) dX12_readPart_74 rfl (XQ_f rfl (RB_wrg p1 (by decide)) EX_wrg)
      · obtain ⟨m1, m2, m3, m4, m5⟩ := cm_v k hk7
        obtain ⟨r, r1, r2, x⟩ := XOk_val (D := D) (v := nI (10000 + k)) p (by rw [n1]; decide) hD m2 m3
        rw [v1, v2, if_neg m4]
        unfold ppF
        rw [if_neg m4]
        refine V_istore_n (pc := 45) (i := 2) dX12_readPart_45 rfl (by decide) rfl ?_
        refine V_iload_n (pc := 46) (i := 2) dX12_readPart_46 rfl rfl ?_
        refine V_iconst (pc := 47) (v := -1) dX12_readPart_47 (by decide) ?_
        refine V_icmp_ne (pc := 48) 56 dX12_readPart_48 rfl (fun _ => ?_) (fun c => absurd c m5)
        refine V_aload_n (pc := 56) (i := 0) dX12_readPart_56 rfl rfl ?_
        refine V_iconst (pc := 57) (v := -1) dX12_readPart_57 (by decide) ?_
        refine V_iload_n (pc := 58) (i := 2) dX12_readPart_58 rfl rfl ?_
        refine V_isub (pc := 59) dX12_readPart_59 ?_
        rw [← m1]
        refine V_V1v (pc := 60) dX12_readPart_60 cX12_226 (by first | assumption | rfl) (X12_lay (d := 0) r1 r2 p.2.1 _ hb) (Nat.le_of_ble_eq_true rfl) (by omega) (Nat.le_of_ble_eq_true rfl) ?_
        refine V_aload_n (pc := 63) (i := 0) dX12_readPart_63 rfl rfl ?_
        refine VW_getI (pc := 64) dX12_readPart_64 fX12_192 (by first | assumption | rfl) rfl ?_
        rw [layS_0]
        refine V_if_ne (pc := 67) 74 dX12_readPart_67 rfl (fun c => absurd p.2.1 c) (fun _ => ?_)
        have pl : PMI (layS T r (cmS (nI (10000 + k)))) (tL S) (tP S) (tE S) := by
          obtain ⟨a1, a2, a3, a4, a5, a6, a7, a8, a9⟩ := p1.2.1
          refine ⟨?_, a2, ?_, ?_, ?_, a6, a7, ?_, ?_⟩
          · rw [layS_0]; exact a1
          · rw [layS_0]; exact a3
          · rw [layS_0]; exact a4
          · rw [layS_0]; exact a5
          · unfold BO; rw [layS_15]; exact a8
          · rw [layS_0, layS_15]; exact a9
        refine V_aload_n (pc := 70) (i := 0) dX12_readPart_70 rfl rfl ?_
        refine V_V0v (pc := 71) dX12_readPart_71 cX12_217 (by first | assumption | rfl) (X12_step (d := 1) pl hb (by omega)) (Nat.le_of_ble_eq_true rfl) (by omega) (Nat.le_of_ble_eq_true rfl) ?_
        rw [step_lay]
        exact VX_ret (pc := 74) dX12_readPart_74 rfl (XQ_t rfl x)
  · have n2 : S 2 6 = 2 := p1.2.2.1.trans c13
    rw [if_pos n2]
    have kr := X12_readNumber (G := G) (d := 2) (b := b) (h0 := h0) p1.2.1 p.2.1 (nI 0) 9999 hb (by omega)
    rcases RTk_num (l := 0) (hi := 9999) p1 (by decide) with ⟨v, hv, e1, e2, e3, e4, e5, e6⟩ | ⟨k, hk, e1, e2, e3, e4⟩
    · rw [e6] at kr
      obtain ⟨m1, m2, m3⟩ := cm_n hv
      obtain ⟨r, r1, r2, x⟩ := XOk_val (D := D) (v := nI v) p (by rw [n2]; decide) hD m2 m3
      rw [m1] at x
      rw [show nmW S 0 9999 = nmW S (nI 0) 9999 from rfl, e1, e4]
      unfold ppF
      rw [if_neg (nI_m1 (by omega))]
      refine V_aload_n (pc := 16) (i := 0) dX12_readPart_16 rfl rfl ?_
      refine V_aload_n (pc := 17) (i := 0) dX12_readPart_17 rfl rfl ?_
      refine V_iconst (pc := 18) (v := 0) dX12_readPart_18 (by decide) ?_
      refine V_sipush (pc := 19) (v := 9999) dX12_readPart_19 (by decide) ?_
      refine V_V2i (pc := 22) dX12_readPart_22 cX12_223 (by first | assumption | rfl) kr (Nat.le_of_ble_eq_true rfl) (by omega) (Nat.le_of_ble_eq_true rfl) ?_
      refine V_V1v (pc := 25) dX12_readPart_25 cX12_226 (by first | assumption | rfl) (X12_lay (d := 0) (show mAd S T 3 7 = nI r by unfold mAd; rw [mStep_off (by decide)]; exact r1) r2 (show mAd S T 0 23 = 0 by unfold mAd; rw [mStep_0 (by omega)]; exact p.2.1) _ hb) (Nat.le_of_ble_eq_true rfl) (by omega) (Nat.le_of_ble_eq_true rfl) ?_
      exact VX_ret (pc := 28) dX12_readPart_28 rfl (XQ_t rfl x)
    · rw [e4] at kr
      rw [show nmW S 0 9999 = nmW S (nI 0) 9999 from rfl, e1, e2]
      unfold ppF
      rw [if_pos rfl]
      have k0 : ¬ k = 0 := by rcases hk with q | q <;> subst q <;> decide
      refine V_aload_n (pc := 16) (i := 0) dX12_readPart_16 rfl rfl ?_
      refine V_aload_n (pc := 17) (i := 0) dX12_readPart_17 rfl rfl ?_
      refine V_iconst (pc := 18) (v := 0) dX12_readPart_18 (by decide) ?_
      refine V_sipush (pc := 19) (v := 9999) dX12_readPart_19 (by decide) ?_
      refine V_V2i (pc := 22) dX12_readPart_22 cX12_223 (by first | assumption | rfl) kr (Nat.le_of_ble_eq_true rfl) (by omega) (Nat.le_of_ble_eq_true rfl) ?_
      refine V_V1v (pc := 25) dX12_readPart_25 cX12_226 (by first | assumption | rfl) (X12_lay_bad (d := 0) (wrg_23 k0) _) (Nat.le_of_ble_eq_true rfl) (by omega) (Nat.le_of_ble_eq_true rfl) ?_
      exact VX_ret (pc := 28) dX12_readPart_28 rfl (XQ_f rfl (RB_wrg p1 k0) EX_wrg)
end P7
