/-! ===== both readers side by side: a whole line ===== -/
section P13
variable {G : xG} {M M' : xM} {d d' bc bs idx pc : Nat} {b : Nat} {ls : List (Option Value)} {st : List Value} {Q : xR → xH → Prop} {S S' S1 S2 S3 T T' T1 T2 T3 U W Z : Nat → Nat → Int32} {h0 h : xH} {t w : Nat}
/-- behind a line -/
def LN (S T : Nat → Nat → Int32) (t : Nat) : Int32 → (Nat → Nat → Int32) → Prop := fun v T' => ∃ dn', LQ S T t dn' (rdLine t S) T' ∧ ((rdLine t S).1 = true → v = nI dn')
theorem X12_line_147 {dn dn' : Nat} {k : Int32} {z : Value} {A : Bool × (Nat → Nat → Int32)} (n : LH A T t dn' T1) (eA : (if A.1 then tkS A.2 59 else (false, A.2)) = rdLine t S) (ev : A.1 = true → nI dn ||| k = nI dn') (hb : gB G ≤ b) (hd : 3 ≤ d) : V G mX12_readLine d 0 0 (xIm G b h0 (LN S T t)) 147 [some (.ref (b + 0)), some (.int (nI dn)), some z, some (.int k)] [] (wH G b tbM T1 h0) := by
  obtain ⟨T', km, lq⟩ := X12_lineEnd (S := S) (G := G) (d := 2) (b := b) (h0 := h0) n hb (by omega)
  rw [eA] at lq
  -- %m X12_readLine
  refine V_aload_n (pc := 147) (i := 0) dX12_readLine_147 rfl rfl ?_
  refine V_bipush (pc := 148) (v := 59) dX12_readLine_148 (by decide) ?_
  refine V_V1v (pc := 150) dX12_readLine_150 cX12_233 (by first | assumption | rfl) km (Nat.le_of_ble_eq_true rfl) (by omega) (Nat.le_of_ble_eq_true rfl) ?_
  refine V_iload_n (pc := 153) (i := 1) dX12_readLine_153 rfl rfl ?_
  refine V_iload_n (pc := 154) (i := 3) dX12_readLine_154 rfl rfl ?_
  refine V_ior (pc := 155) dX12_readLine_155 ?_
  refine V_iret (pc := 156) dX12_readLine_156 rfl ⟨_, T', rfl, rfl, dn', lq, fun q => ev ?_⟩
  cases hA : A.1 with
  | true => rfl
  | false => rw [← eA, hA] at q; cases q
theorem RD_cr {dn D : Nat} (rd : RD S T t dn) (hdn : dn / 2 = 0) (x : XOk D (adv S) (mAd S T) S1 T1 t) (hD : D ≤ 64) (hS : ∀ k, k ≠ 1 → k ≠ 2 → k ≠ t + 6 → k ≠ t + 7 → S1 k = S k) : RD S1 T1 t (dn + 2) ∧ FR T T1 := by
  obtain ⟨pp, n', r, ht, h1, h2, h3, h4, h5, h6, h7, h8⟩ := rd
  obtain ⟨a1, a2, a3, a4, r0, r1, b1, b2, b3, b4, b5, b6, b7, b8, b9, b10⟩ := x
  have hr0 : r = 0 := by
    rcases Nat.eq_zero_or_pos r with q | q
    · exact q
    · have := h8.2.2.mpr q; omega
  subst hr0
  have ex : EX T T1 := EX_step.trans a3
  have h700 := tP7 a1
  have e0 : r0 = 0 := (nI_eq (by omega) (by decide)).mp (b1.symm.trans (by unfold mAd; rw [mStep_off (by decide)]; exact h4.2.1))
  subst e0
  have dp := b10 0 (by omega)
  rw [Nat.sub_zero] at dp
  have hr1 : 0 < r1 := by
    rcases Nat.eq_zero_or_pos r1 with q | q
    · subst q; rw [dpF] at dp; cases dp
    · exact q
  refine ⟨⟨pp, n', r1, ht, ?_, ?_, ?_, ?_, ?_, ?_, ?_, ?_⟩, ex.FR⟩
  · rw [hS t (by omega) (by omega) (by omega) (by omega), ex.2.2.1 4 (by decide)]; exact h1
  · rw [hS (t + 2) (by omega) (by omega) (by omega) (by omega), ex.2.2.1 5 (by decide)]; exact h2
  · rw [hS t (by omega) (by omega) (by omega) (by omega), ex.2.2.1 6 (by decide)]; exact h3
  · exact ⟨b4, b3, by omega, b9, fun _ => dp⟩
  · rw [hS (t + 1) (by omega) (by omega) (by omega) (by omega), hS t (by omega) (by omega) (by omega) (by omega), ex.1 4 (by decide) (by decide) (by decide), ex.2.1 26 (by omega)]; exact h5
  · rw [hS (t + 9) (by omega) (by omega) (by omega) (by omega), hS (t + 10) (by omega) (by omega) (by omega) (by omega), hS (t + 11) (by omega) (by omega) (by omega) (by omega), hS (t + 12) (by omega) (by omega) (by omega) (by omega), ex.1 5 (by decide) (by decide) (by decide), ex.1 6 (by decide) (by decide) (by decide), ex.1 7 (by decide) (by decide) (by decide), ex.1 8 (by decide) (by decide) (by decide)]; exact h6
  · rw [hS (t + 2) (by omega) (by omega) (by omega) (by omega), hS (t + 3) (by omega) (by omega) (by omega) (by omega), hS (t + 4) (by omega) (by omega) (by omega) (by omega), hS (t + 5) (by omega) (by omega) (by omega) (by omega), ex.1 9 (by decide) (by decide) (by decide), ex.1 10 (by decide) (by decide) (by decide), ex.1 11 (by decide) (by decide) (by decide), ex.1 12 (by decide) (by decide) (by decide)]; exact h7
  · rw [hS t (by omega) (by omega) (by omega) (by omega)]
    obtain ⟨k1, k2, k3⟩ := h8
    refine ⟨by rw [show (dn + 2) % 2 = dn % 2 by omega]; exact k1, by omega, ⟨fun _ => hr1, fun _ => by omega⟩⟩
theorem dn_1 : ∀ dn, dn < 4 → ((1 : Int32) &&& nI dn = 0 ↔ dn % 2 = 0) ∧ ((2 : Int32) &&& nI dn = 0 ↔ dn / 2 = 0) ∧ (0 : Int32) &&& nI dn = 0 ∧ (dn % 2 = 0 → nI dn ||| 1 = nI (dn + 1)) ∧ (dn / 2 = 0 → nI dn ||| 2 = nI (dn + 2)) ∧ nI dn ||| 0 = nI dn := by decide +kernel
theorem RD_10 {dn : Nat} (rd : RD S T t dn) : S t 10 = nI (dn % 2) ∧ dn < 4 ∧ (t = 4 ∨ t = 44) ∧ ∃ r, S (t + 6) 2 = nI r ∧ T 3 7 = nI r ∧ r ≤ 700 ∧ (dn / 2 = 1 ↔ 0 < r) := by
  obtain ⟨pp, n, rr, ht, -, -, -, h4, -, -, -, h8⟩ := rd
  exact ⟨h8.1, h8.2.1, ht, rr, h4.1, h4.2.1, h4.2.2.1, h8.2.2⟩
theorem X12_readLine {dn : Nat} (r : RTk S T) (h0' : T 0 23 = 0) (rd : RD S T t dn) (hsh : shC (S 1 1) = t) (hb : gB G ≤ b) (hd : 44 ≤ d) : VM G mX12_readLine d 0 0 [.ref (b + 0), .int (nI dn)] (xIm G b h0 (LN S T t)) (wH G b tbM T h0) := by
  obtain ⟨e10, h4, ht, rr, er, er', h7, hrr⟩ := RD_10 rd
  obtain ⟨d1, d2, d0, d1', d2', d0'⟩ := dn_1 dn h4
  refine VM_start (ls := [some (.ref (b + 0)), some (.int (nI dn)), none, none]) rfl ?_
  -- %m X12_readLine
  refine V_aload_n (pc := 0) (i := 0) dX12_readLine_0 rfl rfl ?_
  refine V_aload_n (pc := 1) (i := 0) dX12_readLine_1 rfl rfl ?_
  refine VW_getR (pc := 2) dX12_readLine_2 fX12_15 (by first | assumption | rfl) rfl ?_
  refine V_V1i (pc := 5) dX12_readLine_5 cX12_229 (by first | assumption | rfl) (X12_whichC (d := 5) r.2.1 h0' (by omega)) (Nat.le_of_ble_eq_true rfl) (by omega) (Nat.le_of_ble_eq_true rfl) ?_
  refine V_istore_n (pc := 8) (i := 2) dX12_readLine_8 rfl (by decide) rfl ?_
  refine V_aload_n (pc := 9) (i := 0) dX12_readLine_9 rfl rfl ?_
  refine V_ldcSW (pc := 10) (i := 35) dX12_readLine_10 rfl ?_
  refine V_V1i (pc := 13) dX12_readLine_13 cX12_206 (by first | assumption | rfl) (X12_is (d := 4) rfl r.2.1 h0' (by omega)) (Nat.le_of_ble_eq_true rfl) (by omega) (Nat.le_of_ble_eq_true rfl) ?_
  refine V_if_eq (pc := 16) 23 dX12_readLine_16 rfl (fun c16 => ?_) (fun c16 => ?_)
  · have nB : wrd S lBridge = false := by rw [RTk_wrd r]; exact b2i_0.mp c16
    refine V_aload_n (pc := 23) (i := 0) dX12_readLine_23 rfl rfl ?_
    refine V_ldcSW (pc := 24) (i := 36) dX12_readLine_24 rfl ?_
    refine V_V1i (pc := 27) dX12_readLine_27 cX12_206 (by first | assumption | rfl) (X12_is (d := 4) rfl r.2.1 h0' (by omega)) (Nat.le_of_ble_eq_true rfl) (by omega) (Nat.le_of_ble_eq_true rfl) ?_
    refine V_if_eq (pc := 30) 37 dX12_readLine_30 rfl (fun c30 => ?_) (fun c30 => ?_)
    · have nC : wrd S lCrosses = false := by rw [RTk_wrd r]; exact b2i_0.mp c30
      refine V_iconst (pc := 37) (v := 0) dX12_readLine_37 (by decide) ?_
      refine V_istore_n (pc := 38) (i := 3) dX12_readLine_38 rfl (by decide) rfl ?_
      refine V_iload_n (pc := 39) (i := 3) dX12_readLine_39 rfl rfl ?_
      refine V_iload_n (pc := 40) (i := 1) dX12_readLine_40 rfl rfl ?_
      refine V_iand (pc := 41) dX12_readLine_41 ?_
      rw [d0]
      refine V_if_eq (pc := 42) 50 dX12_readLine_42 rfl (fun _ => ?_) (fun c => absurd rfl c)
      refine V_iload_n (pc := 50) (i := 3) dX12_readLine_50 rfl rfl ?_
      refine V_if_le (pc := 51) 95 dX12_readLine_51 rfl (fun _ => ?_) (fun c => absurd (by decide) c)
      have eC : mCd T (tL S) (tP S) (tE S) = if wrd S lIf then 0 else if wrd S lUnless then 1 else -1 := by unfold mCd; rw [RTk_wrd r, RTk_wrd r]
      rw [eC]
      by_cases wI : wrd S lIf = true
      · have nW : wrd S lWorth = false := wrd_ex wI (by decide) (by decide) (by decide)
        have nP : wrd S lPerson = false := wrd_ex wI (by decide) (by decide) (by decide)
        have eL : rdLine t S = rdIf t 0 S := by unfold rdLine; rw [nW, nP, if_neg (by decide), if_neg (by decide), if_pos wI]
        rw [if_pos wI]
        obtain ⟨T1, k1, l1⟩ := X12_sayIf (G := G) (d := 3) (b := b) (h0 := h0) (u := 0) (by decide) r h0' rd hb (by omega)
        refine V_iload_n (pc := 95) (i := 2) dX12_readLine_95 rfl rfl ?_
        refine V_iconst (pc := 96) (v := -1) dX12_readLine_96 (by decide) ?_
        refine V_icmp_eq (pc := 97) 108 dX12_readLine_97 rfl (fun c => absurd c (by decide)) (fun _ => ?_)
        refine V_aload_n (pc := 100) (i := 0) dX12_readLine_100 rfl rfl ?_
        refine V_iload_n (pc := 101) (i := 2) dX12_readLine_101 rfl rfl ?_
        refine V_V1v (pc := 102) dX12_readLine_102 cX12_274 (by first | assumption | rfl) k1 (Nat.le_of_ble_eq_true rfl) (by omega) (Nat.le_of_ble_eq_true rfl) ?_
        refine V_goto (pc := 105) 147 dX12_readLine_105 rfl ?_
        exact X12_line_147 l1 (by rw [eL]; exact rdIf_hd.symm) (fun _ => d0') hb (by omega)
      · rw [if_neg wI]
        by_cases wU : wrd S lUnless = true
        · have nW : wrd S lWorth = false := wrd_ex wU (by decide) (by decide) (by decide)
          have nP : wrd S lPerson = false := wrd_ex wU (by decide) (by decide) (by decide)
          have eL : rdLine t S = rdIf t 1 S := by unfold rdLine; rw [nW, nP, if_neg (by decide), if_neg (by decide), if_neg wI, if_pos wU]
          rw [if_pos wU]
          obtain ⟨T1, k1, l1⟩ := X12_sayIf (G := G) (d := 3) (b := b) (h0 := h0) (u := 1) (by decide) r h0' rd hb (by omega)
          refine V_iload_n (pc := 95) (i := 2) dX12_readLine_95 rfl rfl ?_
          refine V_iconst (pc := 96) (v := -1) dX12_readLine_96 (by decide) ?_
          refine V_icmp_eq (pc := 97) 108 dX12_readLine_97 rfl (fun c => absurd c (by decide)) (fun _ => ?_)
          refine V_aload_n (pc := 100) (i := 0) dX12_readLine_100 rfl rfl ?_
          refine V_iload_n (pc := 101) (i := 2) dX12_readLine_101 rfl rfl ?_
          refine V_V1v (pc := 102) dX12_readLine_102 cX12_274 (by first | assumption | rfl) k1 (Nat.le_of_ble_eq_true rfl) (by omega) (Nat.le_of_ble_eq_true rfl) ?_
          refine V_goto (pc := 105) 147 dX12_readLine_105 rfl ?_
          exact X12_line_147 l1 (by rw [eL]; exact rdIf_hd.symm) (fun _ => d0') hb (by omega)
        · rw [if_neg wU]
          refine V_iload_n (pc := 95) (i := 2) dX12_readLine_95 rfl rfl ?_
          refine V_iconst (pc := 96) (v := -1) dX12_readLine_96 (by decide) ?_
          refine V_icmp_eq (pc := 97) 108 dX12_readLine_97 rfl (fun _ => ?_) (fun c => absurd rfl c)
          refine V_aload_n (pc := 108) (i := 0) dX12_readLine_108 rfl rfl ?_
          refine V_ldcSW (pc := 109) (i := 40) dX12_readLine_109 rfl ?_
          refine V_V1i (pc := 112) dX12_readLine_112 cX12_206 (by first | assumption | rfl) (X12_is (d := 4) rfl r.2.1 h0' (by omega)) (Nat.le_of_ble_eq_true rfl) (by omega) (Nat.le_of_ble_eq_true rfl) ?_
          refine V_if_eq (pc := 115) 125 dX12_readLine_115 rfl (fun c115 => ?_) (fun c115 => ?_)
          · have nW : wrd S lWorth = false := by rw [RTk_wrd r]; exact b2i_0.mp c115
            refine V_aload_n (pc := 125) (i := 0) dX12_readLine_125 rfl rfl ?_
            refine V_ldcSW (pc := 126) (i := 41) dX12_readLine_126 rfl ?_
            refine V_V1i (pc := 129) dX12_readLine_129 cX12_206 (by first | assumption | rfl) (X12_is (d := 4) rfl r.2.1 h0' (by omega)) (Nat.le_of_ble_eq_true rfl) (by omega) (Nat.le_of_ble_eq_true rfl) ?_
            refine V_if_eq (pc := 132) 142 dX12_readLine_132 rfl (fun c132 => ?_) (fun c132 => ?_)
            · have nP : wrd S lPerson = false := by rw [RTk_wrd r]; exact b2i_0.mp c132
              have eL : rdLine t S = (false, rfs S 1) := by unfold rdLine; rw [nW, nP, nB, nC, if_neg (by decide), if_neg (by decide), if_neg wI, if_neg wU, if_neg (by decide), if_neg (by decide)]
              refine V_aload_n (pc := 142) (i := 0) dX12_readLine_142 rfl rfl ?_
              refine V_iconst (pc := 143) (v := 1) dX12_readLine_143 (by decide) ?_
              refine V_V1v (pc := 144) dX12_readLine_144 cX12_213 (by first | assumption | rfl) (X12_wrong_ok (d := 0) h0' _ hb) (Nat.le_of_ble_eq_true rfl) (by omega) (Nat.le_of_ble_eq_true rfl) ?_
              exact X12_line_147 (dn' := dn) (LH_f (RB_wrg r (by decide)) EX_wrg.FR) (by rw [eL]; rfl) (fun _ => d0') hb (by omega)
            · have wP : wrd S lPerson = true := by rw [RTk_wrd r]; exact b2i_n0.mp c132
              have eL : rdLine t S = rdPerson t S := by unfold rdLine; rw [nW, if_neg (by decide), if_pos wP]
              obtain ⟨T1, k1, l1⟩ := X12_sayPerson (G := G) (d := 3) (b := b) (h0 := h0) r h0' rd hb (by omega)
              refine V_aload_n (pc := 135) (i := 0) dX12_readLine_135 rfl rfl ?_
              refine V_V0v (pc := 136) dX12_readLine_136 cX12_284 (by first | assumption | rfl) k1 (Nat.le_of_ble_eq_true rfl) (by omega) (Nat.le_of_ble_eq_true rfl) ?_
              refine V_goto (pc := 139) 147 dX12_readLine_139 rfl ?_
              exact X12_line_147 l1 (by rw [eL]; exact rdPe_hd.symm) (fun _ => d0') hb (by omega)
          · have wW : wrd S lWorth = true := by rw [RTk_wrd r]; exact b2i_n0.mp c115
            have eL : rdLine t S = rdWorth t S := by unfold rdLine; rw [if_pos wW]
            obtain ⟨T1, k1, l1⟩ := X12_sayWorth (G := G) (d := 3) (b := b) (h0 := h0) r h0' rd hb (by omega)
            refine V_aload_n (pc := 118) (i := 0) dX12_readLine_118 rfl rfl ?_
            refine V_V0v (pc := 119) dX12_readLine_119 cX12_279 (by first | assumption | rfl) k1 (Nat.le_of_ble_eq_true rfl) (by omega) (Nat.le_of_ble_eq_true rfl) ?_
            refine V_goto (pc := 122) 147 dX12_readLine_122 rfl ?_
            exact X12_line_147 l1 (by rw [eL]; exact rdWo_hd.symm) (fun _ => d0') hb (by omega)
    · -- crosses
      have wC : wrd S lCrosses = true := by rw [RTk_wrd r]; exact b2i_n0.mp c30
      have nW : wrd S lWorth = false := wrd_ex wC (by decide) (by decide) (by decide)
      have nP : wrd S lPerson = false := wrd_ex wC (by decide) (by decide) (by decide)
      have nI' : wrd S lIf = false := wrd_ex wC (by decide) (by decide) (by decide)
      have nU : wrd S lUnless = false := wrd_ex wC (by decide) (by decide) (by decide)
      have eL : rdLine t S = rdCrosses t S := by unfold rdLine; rw [nW, nP, nI', nU, nB, if_neg (by decide), if_neg (by decide), if_neg (by decide), if_neg (by decide), if_neg (by decide), if_pos wC]
      refine V_iconst (pc := 33) (v := 2) dX12_readLine_33 (by decide) ?_
      refine V_goto (pc := 34) 38 dX12_readLine_34 rfl ?_
      refine V_istore_n (pc := 38) (i := 3) dX12_readLine_38 rfl (by decide) rfl ?_
      refine V_iload_n (pc := 39) (i := 3) dX12_readLine_39 rfl rfl ?_
      refine V_iload_n (pc := 40) (i := 1) dX12_readLine_40 rfl rfl ?_
      refine V_iand (pc := 41) dX12_readLine_41 ?_
      refine V_if_eq (pc := 42) 50 dX12_readLine_42 rfl (fun c42 => ?_) (fun c42 => ?_)
      · have hdn : dn / 2 = 0 := d2.mp c42
        have hr0 : rr = 0 := by
          rcases Nat.eq_zero_or_pos rr with q | q
          · exact q
          · have := hrr.mpr q; omega
        subst hr0
        have hk : ¬ S 2 6 = 0 := fun q => by unfold wrd at wC; rw [q] at wC; simp at wC
        have p : Pre S T t := ⟨r, h0', ht, 0, er', er, by omega, fun i hi => by omega⟩
        obtain ⟨p2, -⟩ := Pre_adv p hk
        have eL2 : rdCrosses t S = if (exF t 6 (adv S)).1 then tkS (exF t 6 (adv S)).2 59 else (false, (exF t 6 (adv S)).2) := by
          unfold rdCrosses
          rw [if_neg (by rw [er]; decide)]
          rfl
        have xi : XI (adv S) (exF t 6 (adv S)).2 t := XI_exF 6 (adv S) ⟨p2.1.1, by rw [adv_off (by decide)]; exact hsh, ⟨0, by decide, by rw [adv_off (by omega)]; exact er⟩, fun _ _ _ _ _ => rfl⟩
        have hS1 : ∀ k, k ≠ 1 → k ≠ 2 → k ≠ t + 6 → k ≠ t + 7 → (exF t 6 (adv S)).2 k = S k := fun k q1 q2 q3 q4 => by rw [xi.2.2.2 k q1 q2 q3 q4, adv_off q2]
        refine V_iload_n (pc := 50) (i := 3) dX12_readLine_50 rfl rfl ?_
        refine V_if_le (pc := 51) 95 dX12_readLine_51 rfl (fun c => absurd c (by decide)) (fun _ => ?_)
        refine V_aload_n (pc := 54) (i := 0) dX12_readLine_54 rfl rfl ?_
        refine VW_getI (pc := 55) dX12_readLine_55 fX12_192 (by first | assumption | rfl) rfl ?_
        refine V_if_ne (pc := 58) 65 dX12_readLine_58 rfl (fun c => absurd h0' c) (fun _ => ?_)
        refine V_aload_n (pc := 61) (i := 0) dX12_readLine_61 rfl rfl ?_
        refine V_V0v (pc := 62) dX12_readLine_62 cX12_217 (by first | assumption | rfl) (X12_step (d := 1) r.2.1 hb (by omega)) (Nat.le_of_ble_eq_true rfl) (by omega) (Nat.le_of_ble_eq_true rfl) ?_
        refine V_iload_n (pc := 65) (i := 3) dX12_readLine_65 rfl rfl ?_
        refine V_iconst (pc := 66) (v := 1) dX12_readLine_66 (by decide) ?_
        refine V_icmp_ne (pc := 67) 87 dX12_readLine_67 rfl (fun _ => ?_) (fun c => absurd c (by decide))
        refine V_aload_n (pc := 87) (i := 0) dX12_readLine_87 rfl rfl ?_
        refine V_iconst (pc := 88) (v := 0) dX12_readLine_88 (by decide) ?_
        refine V_X1 (pc := 89) dX12_readLine_89 cX12_236 rfl (X12_expr (t := t) hb 6 (by decide) (adv S) (mAd S T) 42 (by decide) p2) (Nat.le_of_ble_eq_true rfl) (by omega) (Nat.le_of_ble_eq_true rfl) (fun T1 q1 => ?_)
        refine V_goto (pc := 92) 147 dX12_readLine_92 rfl ?_
        rcases XQ_E q1 with ⟨e, y⟩ | ⟨e, y, ey⟩
        · obtain ⟨rd1, fr1⟩ := RD_cr rd hdn y (by decide) hS1
          exact X12_line_147 (dn' := dn + 2) (A := exF t 6 (adv S)) (Or.inl ⟨e, y.1, y.2.1, rd1, fr1⟩) (by rw [eL, eL2]) (fun _ => d2' hdn) hb (by omega)
        · exact X12_line_147 (dn' := dn + 2) (A := exF t 6 (adv S)) (Or.inr ⟨e, y, (EX_step.trans ey).FR⟩) (by rw [eL, eL2]) (fun _ => d2' hdn) hb (by omega)
      · have hdn : ¬ dn / 2 = 0 := fun q => c42 (d2.mpr q)
        have hr0 : 0 < rr := hrr.mp (by omega)
        have eL2 : rdCrosses t S = (false, rfs S 5) := by unfold rdCrosses; rw [if_pos (by rw [er]; exact nI_lt (a := 0) hr0 (by omega))]
        refine V_aload_n (pc := 45) (i := 0) dX12_readLine_45 rfl rfl ?_
        refine V_iconst (pc := 46) (v := 5) dX12_readLine_46 (by decide) ?_
        refine V_V1v (pc := 47) dX12_readLine_47 cX12_213 (by first | assumption | rfl) (X12_wrong_ok (d := 0) h0' _ hb) (Nat.le_of_ble_eq_true rfl) (by omega) (Nat.le_of_ble_eq_true rfl) ?_
        refine V_iload_n (pc := 50) (i := 3) dX12_readLine_50 rfl rfl ?_
        refine V_if_le (pc := 51) 95 dX12_readLine_51 rfl (fun c => absurd c (by decide)) (fun _ => ?_)
        refine V_aload_n (pc := 54) (i := 0) dX12_readLine_54 rfl rfl ?_
        refine VW_getI (pc := 55) dX12_readLine_55 fX12_192 (by first | assumption | rfl) rfl ?_
        refine V_if_ne (pc := 58) 65 dX12_readLine_58 rfl (fun _ => ?_) (fun c => absurd c (wrg_23 (k := 5) (by decide)))
        refine V_iload_n (pc := 65) (i := 3) dX12_readLine_65 rfl rfl ?_
        refine V_iconst (pc := 66) (v := 1) dX12_readLine_66 (by decide) ?_
        refine V_icmp_ne (pc := 67) 87 dX12_readLine_67 rfl (fun _ => ?_) (fun c => absurd c (by decide))
        refine V_aload_n (pc := 87) (i := 0) dX12_readLine_87 rfl rfl ?_
        refine V_iconst (pc := 88) (v := 0) dX12_readLine_88 (by decide) ?_
        refine V_V1v (pc := 89) dX12_readLine_89 cX12_236 (by first | assumption | rfl) (X12_readExpression_bad (d := 0) (wrg_23 (k := 5) (by decide)) _) (Nat.le_of_ble_eq_true rfl) (by omega) (Nat.le_of_ble_eq_true rfl) ?_
        refine V_goto (pc := 92) 147 dX12_readLine_92 rfl ?_
        exact X12_line_147 (dn' := dn + 2) (LH_f (RB_wrg r (by decide)) EX_wrg.FR) (by rw [eL, eL2]; rfl) (fun q => by cases q) hb (by omega)
  · -- bridge
    have wB : wrd S lBridge = true := by rw [RTk_wrd r]; exact b2i_n0.mp c16
    have nW : wrd S lWorth = false := wrd_ex wB (by decide) (by decide) (by decide)
    have nP : wrd S lPerson = false := wrd_ex wB (by decide) (by decide) (by decide)
    have nI' : wrd S lIf = false := wrd_ex wB (by decide) (by decide) (by decide)
    have nU : wrd S lUnless = false := wrd_ex wB (by decide) (by decide) (by decide)
    have eL : rdLine t S = rdBridge t S := by unfold rdLine; rw [nW, nP, nI', nU, if_neg (by decide), if_neg (by decide), if_neg (by decide), if_neg (by decide), if_pos wB]
    refine V_iconst (pc := 19) (v := 1) dX12_readLine_19 (by decide) ?_
    refine V_goto (pc := 20) 38 dX12_readLine_20 rfl ?_
    refine V_istore_n (pc := 38) (i := 3) dX12_readLine_38 rfl (by decide) rfl ?_
    refine V_iload_n (pc := 39) (i := 3) dX12_readLine_39 rfl rfl ?_
    refine V_iload_n (pc := 40) (i := 1) dX12_readLine_40 rfl rfl ?_
    refine V_iand (pc := 41) dX12_readLine_41 ?_
    refine V_if_eq (pc := 42) 50 dX12_readLine_42 rfl (fun c42 => ?_) (fun c42 => ?_)
    · have hdn : dn % 2 = 0 := d1.mp c42
      have n2 : NG (0, adv S) (mAd S T) := Or.inl ⟨by show ¬ (0 : Int32) = -1; decide, RTk_adv r, by unfold mAd; rw [mStep_0 (by omega)]; exact h0'⟩
      obtain ⟨v1, T3, k1, n3, e3, c3⟩ := X12_rdE (G := G) (d := 2) (b := b) (h0 := h0) 1 8 n2 (by decide) hb (by omega)
      rw [show nI 1 = (1 : Int32) from rfl, thn_0] at n3 c3
      have evF := ((Ev_step (T := T) (L := tL S) (p := tE S)).trans e3).up (k := 3) (j := 6) (x := v1) (by decide)
      have fr : FR T (up2 T 3 6 v1) := FR_up (by decide) (by decide) (by decide)
      have eL2 : rdBridge t S = rdB1 t (tkW (adv S) 1 8) := by unfold rdBridge; rw [if_pos (by rw [e10, hdn]; rfl)]
      refine V_iload_n (pc := 50) (i := 3) dX12_readLine_50 rfl rfl ?_
      refine V_if_le (pc := 51) 95 dX12_readLine_51 rfl (fun c => absurd c (by decide)) (fun _ => ?_)
      refine V_aload_n (pc := 54) (i := 0) dX12_readLine_54 rfl rfl ?_
      refine VW_getI (pc := 55) dX12_readLine_55 fX12_192 (by first | assumption | rfl) rfl ?_
      refine V_if_ne (pc := 58) 65 dX12_readLine_58 rfl (fun c => absurd h0' c) (fun _ => ?_)
      refine V_aload_n (pc := 61) (i := 0) dX12_readLine_61 rfl rfl ?_
      refine V_V0v (pc := 62) dX12_readLine_62 cX12_217 (by first | assumption | rfl) (X12_step (d := 1) r.2.1 hb (by omega)) (Nat.le_of_ble_eq_true rfl) (by omega) (Nat.le_of_ble_eq_true rfl) ?_
      refine V_iload_n (pc := 65) (i := 3) dX12_readLine_65 rfl rfl ?_
      refine V_iconst (pc := 66) (v := 1) dX12_readLine_66 (by decide) ?_
      refine V_icmp_ne (pc := 67) 87 dX12_readLine_67 rfl (fun c => absurd rfl c) (fun _ => ?_)
      refine V_aload_n (pc := 70) (i := 0) dX12_readLine_70 rfl rfl ?_
      refine VW_getR (pc := 71) dX12_readLine_71 fX12_36 (by first | assumption | rfl) rfl ?_
      refine V_bipush (pc := 74) (v := 6) dX12_readLine_74 (by decide) ?_
      refine V_aload_n (pc := 76) (i := 0) dX12_readLine_76 rfl rfl ?_
      refine V_iconst (pc := 77) (v := 1) dX12_readLine_77 (by decide) ?_
      refine V_bipush (pc := 78) (v := 8) dX12_readLine_78 (by decide) ?_
      refine V_V2i (pc := 80) dX12_readLine_80 cX12_223 (by first | assumption | rfl) k1 (Nat.le_of_ble_eq_true rfl) (by omega) (Nat.le_of_ble_eq_true rfl) ?_
      refine VW_iastN (pc := 83) dX12_readLine_83 (by first | assumption | rfl) (by assumption) (j := 6) rfl (by decide) (by first | decide | omega) ?_
      refine V_goto (pc := 84) 147 dX12_readLine_84 rfl ?_
      rcases n3 with ⟨g1, g2, g3⟩ | ⟨g1, g2⟩
      · have c3' := c3.resolve_left g1
        obtain ⟨w3, hw3, ew3, lw3, uw3⟩ := c3'.2.2
        subst ew3
        have hg := w_le uw3 hw3 (m := 8) rfl (by decide)
        have hg1 : 1 ≤ w3 := (nI_leI (by decide) (by omega)).mp (Int32.not_lt.mp lw3)
        refine X12_line_147 (dn' := dn + 1) (A := (true, up2 (up2 (tkW (adv S) 1 8).2 t 9 (tkW (adv S) 1 8).1) t 10 1)) (LH_t (RTk_of g2 ?_ ?_ (fun j _ _ => by rw [up2_row (by decide)]) (by rw [up2_row (by decide)])) (by rw [up2_row (by decide)]; exact g3) ?_ (evF.FR fr)) ?_ (fun _ => d1' hdn) hb (by omega)
        · simp (disch := omega) only [up2_row]
        · simp (disch := omega) only [up2_row]
        · rw [← c3'.1]
          refine Ev.RD evF (RD_S (RD_br rd hdn hg1 hg) ?_)
          exact (show Ag _ S from fun k q1 q2 => by rw [tkW_off q1 q2, adv_off q2]).up.up
        · rw [eL, eL2]; unfold rdB1; rw [if_neg g1]; rfl
      · refine X12_line_147 (dn' := dn + 1) (LH_f (RB_up g2 (by decide)) (evF.FR fr)) ?_ (fun q => by cases q) hb (by omega)
        rw [eL, eL2]; unfold rdB1; rw [if_pos g1]; rfl
    · have hdn : ¬ dn % 2 = 0 := fun q => c42 (d1.mpr q)
      have eL2 : rdBridge t S = (false, rfs S 5) := by unfold rdBridge; rw [if_neg (by rw [e10, show dn % 2 = 1 by omega]; decide)]
      refine V_aload_n (pc := 45) (i := 0) dX12_readLine_45 rfl rfl ?_
      refine V_iconst (pc := 46) (v := 5) dX12_readLine_46 (by decide) ?_
      refine V_V1v (pc := 47) dX12_readLine_47 cX12_213 (by first | assumption | rfl) (X12_wrong_ok (d := 0) h0' _ hb) (Nat.le_of_ble_eq_true rfl) (by omega) (Nat.le_of_ble_eq_true rfl) ?_
      refine V_iload_n (pc := 50) (i := 3) dX12_readLine_50 rfl rfl ?_
      refine V_if_le (pc := 51) 95 dX12_readLine_51 rfl (fun c => absurd c (by decide)) (fun _ => ?_)
      refine V_aload_n (pc := 54) (i := 0) dX12_readLine_54 rfl rfl ?_
      refine VW_getI (pc := 55) dX12_readLine_55 fX12_192 (by first | assumption | rfl) rfl ?_
      refine V_if_ne (pc := 58) 65 dX12_readLine_58 rfl (fun _ => ?_) (fun c => absurd c (wrg_23 (k := 5) (by decide)))
      refine V_iload_n (pc := 65) (i := 3) dX12_readLine_65 rfl rfl ?_
      refine V_iconst (pc := 66) (v := 1) dX12_readLine_66 (by decide) ?_
      refine V_icmp_ne (pc := 67) 87 dX12_readLine_67 rfl (fun c => absurd rfl c) (fun _ => ?_)
      refine V_aload_n (pc := 70) (i := 0) dX12_readLine_70 rfl rfl ?_
      refine VW_getR (pc := 71) dX12_readLine_71 fX12_36 (by first | assumption | rfl) rfl ?_
      refine V_bipush (pc := 74) (v := 6) dX12_readLine_74 (by decide) ?_
      refine V_aload_n (pc := 76) (i := 0) dX12_readLine_76 rfl rfl ?_
      refine V_iconst (pc := 77) (v := 1) dX12_readLine_77 (by decide) ?_
      refine V_bipush (pc := 78) (v := 8) dX12_readLine_78 (by decide) ?_
      refine V_V2i (pc := 80) dX12_readLine_80 cX12_223 (by first | assumption | rfl) (X12_readNumber_bad (d := 1) (wrg_23 (k := 5) (by decide)) _ _ (by omega)) (Nat.le_of_ble_eq_true rfl) (by omega) (Nat.le_of_ble_eq_true rfl) ?_
      refine VW_iastN (pc := 83) dX12_readLine_83 (by first | assumption | rfl) (by assumption) (j := 6) rfl (by decide) (by first | decide | omega) ?_
      refine V_goto (pc := 84) 147 dX12_readLine_84 rfl ?_
      exact X12_line_147 (dn' := dn + 1) (LH_f (RB_up (RB_wrg r (by decide)) (by decide)) (EX_wrg.FR.trans (FR_up (by decide) (by decide) (by decide)))) (by rw [eL, eL2]; rfl) (fun q => by cases q) hb (by omega)
end P13
