/-! ===== both readers side by side: a worth, a line ===== -/
section P12
variable {G : xG} {M M' : xM} {d d' bc bs idx pc : Nat} {b : Nat} {ls : List (Option Value)} {st : List Value} {Q : xR → xH → Prop} {S S' S1 S2 S3 T T' T1 T2 T3 U W Z : Nat → Nat → Int32} {h0 h : xH} {t w : Nat}
def hdW3 (t : Nat) (q : Int32) (ng : Bool) (B : Int32 × (Nat → Nat → Int32)) : Bool × (Nat → Nat → Int32) := if B.1 = -1 then (false, B.2) else (true, twS B.2 t q (if ng then -B.1 else B.1))
def hdW2 (t : Nat) (A : Int32 × (Nat → Nat → Int32)) : Bool × (Nat → Nat → Int32) := if A.1 = -1 then (false, A.2) else if hasB (A.2 t 8) A.1 then (false, rfs A.2 4) else hdW3 t A.1 (sgn (adv A.2) 45) (tkW (if sgn (adv A.2) 45 then adv (adv A.2) else adv A.2) 0 9)
def hdWo (t : Nat) (S : Nat → Nat → Int32) : Bool × (Nat → Nat → Int32) := hdW2 t (nmW (adv S) 0 9)
theorem rdW3_hd {q : Int32} {ng : Bool} {B : Int32 × (Nat → Nat → Int32)} : rdW3 t q ng B = if (hdW3 t q ng B).1 then tkS (hdW3 t q ng B).2 59 else (false, (hdW3 t q ng B).2) := by
  unfold rdW3 hdW3
  by_cases c : B.1 = -1
  · rw [if_pos c, if_pos c]; rfl
  · rw [if_neg c, if_neg c]; rfl
theorem rdW2_hd {A : Int32 × (Nat → Nat → Int32)} : rdW2 t A = if (hdW2 t A).1 then tkS (hdW2 t A).2 59 else (false, (hdW2 t A).2) := by
  unfold rdW2 hdW2
  by_cases c : A.1 = -1
  · rw [if_pos c, if_pos c]; rfl
  · rw [if_neg c, if_neg c]
    by_cases c2 : hasB (A.2 t 8) A.1 = true
    · rw [if_pos c2, if_pos c2]; rfl
    · rw [if_neg c2, if_neg c2]; exact rdW3_hd
theorem rdWo_hd : rdWorth t S = if (hdWo t S).1 then tkS (hdWo t S).2 59 else (false, (hdWo t S).2) := rdW2_hd
theorem RD_8 {dn : Nat} (rd : RD S T t dn) : S t 8 = T 0 26 ∧ (t = 4 ∨ t = 44) := by
  obtain ⟨pp, n, rr, ht, -, -, -, -, h5, -⟩ := rd
  exact ⟨h5.2, ht⟩
theorem X12_sayWorth_66 {x : Int32} (r3 : RTk S T) (b3 : T 0 23 = 0) (hb : gB G ≤ b) (hd : 2 ≤ d) (k1 : sgn S 45 = true → V G mX12_sayWorth d 0 0 Q 81 [some (.ref (b + 0)), some (.int x), some (.int (b2i true)), none] [] (wH G b tbM (mAd S T) h0)) (k2 : sgn S 45 = false → V G mX12_sayWorth d 0 0 Q 81 [some (.ref (b + 0)), some (.int x), some (.int (b2i false)), none] [] (wH G b tbM T h0)) : V G mX12_sayWorth d 0 0 Q 66 [some (.ref (b + 0)), some (.int x), none, none] [] (wH G b tbM T h0) := by
  -- %m X12_sayWorth
  refine V_aload_n (pc := 66) (i := 0) dX12_sayWorth_66 rfl rfl ?_
  refine V_bipush (pc := 67) (v := 45) dX12_sayWorth_67 (by decide) ?_
  refine V_V1i (pc := 69) dX12_sayWorth_69 cX12_210 (by first | assumption | rfl) (X12_isMarked (d := 0) r3.2.1 b3 _) (Nat.le_of_ble_eq_true rfl) (by omega) (Nat.le_of_ble_eq_true rfl) ?_
  rw [← RTk_sgn r3]
  refine V_istore_n (pc := 72) (i := 2) dX12_sayWorth_72 rfl (by decide) rfl ?_
  refine V_iload_n (pc := 73) (i := 2) dX12_sayWorth_73 rfl rfl ?_
  refine V_if_eq (pc := 74) 81 dX12_sayWorth_74 rfl (fun c74 => ?_) (fun c74 => ?_)
  · rw [b2i_0.mp c74]
    exact k2 (b2i_0.mp c74)
  · rw [b2i_n0.mp c74]
    refine V_aload_n (pc := 77) (i := 0) dX12_sayWorth_77 rfl rfl ?_
    refine V_V0v (pc := 78) dX12_sayWorth_78 cX12_217 (by first | assumption | rfl) (X12_step (d := 1) r3.2.1 hb (by omega)) (Nat.le_of_ble_eq_true rfl) (by omega) (Nat.le_of_ble_eq_true rfl) ?_
    exact k1 (b2i_n0.mp c74)
theorem X12_sayWorth {dn : Nat} (r : RTk S T) (h0' : T 0 23 = 0) (rd : RD S T t dn) (hb : gB G ≤ b) (hd : 3 ≤ d) : ∃ T', VM G mX12_sayWorth d 0 0 [.ref (b + 0)] (xE none (wH G b tbM T' h0)) (wH G b tbM T h0) ∧ LH (hdWo t S) T t dn T' := by
  obtain ⟨e8, ht⟩ := RD_8 rd
  have r1 := RTk_adv r
  have b1 : mAd S T 0 23 = 0 := by unfold mAd; rw [mStep_0 (by omega)]; exact h0'
  have kn := X12_numberNow (G := G) (d := 1) (b := b) (h0 := h0) r1.2.1 b1 (nI 0) 9 hb (by omega)
  unfold hdWo hdW2
  rcases RTk_num (l := 0) (hi := 9) r1 (by decide) with ⟨v, hv, e1, e2, e3, e4, e5, e6⟩ | ⟨k, hk, e1, e2, e3, e4⟩
  · have hq := w_le e3 hv (m := 9) rfl (by decide)
    rw [show nmW (adv S) 0 9 = nmW (adv S) (nI 0) 9 from rfl, e1, e4, if_neg (nI_m1 (by omega))]
    rw [e5] at kn
    have e26 : mAd S T 0 26 = adv S t 8 := by unfold mAd; rw [mStep_0 (by omega), adv_off (by omega)]; exact e8.symm
    by_cases hw : hasB (adv S t 8) (nI v) = true
    · rw [if_pos hw]
      refine ⟨wrg (mAd S T) 4, ?_, LH_f (RB_wrg r1 (by decide)) (EX_step.trans EX_wrg).FR⟩
      refine VM_start (ls := [some (.ref (b + 0)), none, none, none]) rfl ?_
      -- %m X12_sayWorth
      refine V_aload_n (pc := 0) (i := 0) dX12_sayWorth_0 rfl rfl ?_
      refine VW_getI (pc := 1) dX12_sayWorth_1 fX12_192 (by first | assumption | rfl) rfl ?_
      refine V_if_ne (pc := 4) 11 dX12_sayWorth_4 rfl (fun c => absurd h0' c) (fun _ => ?_)
      refine V_aload_n (pc := 7) (i := 0) dX12_sayWorth_7 rfl rfl ?_
      refine V_V0v (pc := 8) dX12_sayWorth_8 cX12_217 (by first | assumption | rfl) (X12_step (d := 1) r.2.1 hb (by omega)) (Nat.le_of_ble_eq_true rfl) (by omega) (Nat.le_of_ble_eq_true rfl) ?_
      show V G mX12_sayWorth d 0 0 _ 11 _ _ (wH G b tbM (mAd S T) h0)
      refine V_aload_n (pc := 11) (i := 0) dX12_sayWorth_11 rfl rfl ?_
      refine V_iconst (pc := 12) (v := 0) dX12_sayWorth_12 (by decide) ?_
      refine V_bipush (pc := 13) (v := 9) dX12_sayWorth_13 (by decide) ?_
      refine V_V2i (pc := 15) dX12_sayWorth_15 cX12_220 (by first | assumption | rfl) kn (Nat.le_of_ble_eq_true rfl) (by omega) (Nat.le_of_ble_eq_true rfl) ?_
      refine V_istore_n (pc := 18) (i := 1) dX12_sayWorth_18 rfl (by decide) rfl ?_
      refine V_aload_n (pc := 19) (i := 0) dX12_sayWorth_19 rfl rfl ?_
      refine VW_getI (pc := 20) dX12_sayWorth_20 fX12_192 (by first | assumption | rfl) rfl ?_
      refine V_if_ne (pc := 23) 42 dX12_sayWorth_23 rfl (fun c => absurd b1 c) (fun _ => ?_)
      refine V_aload_n (pc := 26) (i := 0) dX12_sayWorth_26 rfl rfl ?_
      refine VW_getI (pc := 27) dX12_sayWorth_27 fX12_260 (by first | assumption | rfl) rfl ?_
      show V G mX12_sayWorth d 0 0 _ 30 _ [.int (mAd S T 0 26)] _
      rw [e26]
      refine V_iload_n (pc := 30) (i := 1) dX12_sayWorth_30 rfl rfl ?_
      refine V_S2i (pc := 31) dX12_sayWorth_31 cX12_263 (X12_isOf (d := 0) _ _) (Nat.le_of_ble_eq_true rfl) (by omega) (Nat.le_of_ble_eq_true rfl) ?_
      refine V_if_eq (pc := 34) 42 dX12_sayWorth_34 rfl (fun c => absurd (b2i_0.mp c) (by rw [hw]; decide)) (fun _ => ?_)
      refine V_aload_n (pc := 37) (i := 0) dX12_sayWorth_37 rfl rfl ?_
      refine V_iconst (pc := 38) (v := 4) dX12_sayWorth_38 (by decide) ?_
      refine V_V1v (pc := 39) dX12_sayWorth_39 cX12_213 (by first | assumption | rfl) (X12_wrong_ok (d := 0) b1 _ hb) (Nat.le_of_ble_eq_true rfl) (by omega) (Nat.le_of_ble_eq_true rfl) ?_
      refine V_aload_n (pc := 42) (i := 0) dX12_sayWorth_42 rfl rfl ?_
      refine VW_getI (pc := 43) dX12_sayWorth_43 fX12_192 (by first | assumption | rfl) rfl ?_
      refine V_if_eq (pc := 46) 50 dX12_sayWorth_46 rfl (fun c => absurd c (wrg_23 (k := 4) (by decide))) (fun _ => ?_)
      exact VE_vret (pc := 49) dX12_sayWorth_49 rfl rfl
    · rw [if_neg hw]
      have r2 := RTk_adv r1
      have b2 : mAd (adv S) (mAd S T) 0 23 = 0 := by unfold mAd; rw [mStep_0 (by omega)]; exact b1
      have r3 : RTk (adv (adv S)) (up2 (mAd (adv S) (mAd S T)) 0 26 (mAd (adv S) (mAd S T) 0 26 ||| 1 <<< (nI v &&& 31))) := RTk_up0 r2
      have b3 : up2 (mAd (adv S) (mAd S T)) 0 26 (mAd (adv S) (mAd S T) 0 26 ||| 1 <<< (nI v &&& 31)) 0 23 = 0 := by rw [up2_col (by decide)]; exact b2
      have ev3 : Ev (up2 T 0 26 (T 0 26 ||| 1 <<< (nI v &&& 31))) (up2 (mAd (adv S) (mAd S T)) 0 26 (mAd (adv S) (mAd S T) 0 26 ||| 1 <<< (nI v &&& 31))) := by
        have a := (Ev_step (T := T) (L := tL S) (p := tE S)).trans (Ev_step (T := mAd S T) (L := tL (adv S)) (p := tE (adv S)))
        have a26 : mAd (adv S) (mAd S T) 0 26 = T 0 26 := a.2 26 (by omega)
        rw [a26]
        refine ⟨fun k hk => by rw [up2_row hk, up2_row hk]; exact a.1 k hk, fun j hj => ?_⟩
        by_cases e : j = 26
        · subst e; rw [up2_same, up2_same]
        · rw [up2_col e, up2_col e]; exact a.2 j hj
      generalize hT3 : up2 (mAd (adv S) (mAd S T)) 0 26 (mAd (adv S) (mAd S T) 0 26 ||| 1 <<< (nI v &&& 31)) = T3 at r3 b3 ev3
      -- the worth itself
      have num : ∀ (ng : Bool) (S4 T4 : Nat → Nat → Int32), RTk S4 T4 → T4 0 23 = 0 → Ev (up2 T 0 26 (T 0 26 ||| 1 <<< (nI v &&& 31))) T4 → Ag S4 S → ∃ T', V G mX12_sayWorth d 0 0 (xE none (wH G b tbM T' h0)) 81 [some (.ref (b + 0)), some (.int (nI v)), some (.int (b2i ng)), none] [] (wH G b tbM T4 h0) ∧ LH (hdW3 t (nI v) ng (tkW S4 0 9)) T t dn T' := by
        intro ng S4 T4 r4 b4 ev4 ag
        have n4 : NG (0, S4) T4 := Or.inl ⟨by show ¬ (0 : Int32) = -1; decide, r4, b4⟩
        obtain ⟨v1, T5, k1, n5, e5', c5⟩ := X12_rdE (G := G) (d := 2) (b := b) (h0 := h0) 0 9 n4 (by decide) hb (by omega)
        rw [show nI 0 = (0 : Int32) from rfl, thn_0] at n5 c5
        have evF := (ev4.trans e5').up (k := 4) (j := 10 + v) (x := if ng then -v1 else v1) (by decide)
        have fr : FR T (up2 (up2 T 0 26 (T 0 26 ||| 1 <<< (nI v &&& 31))) 4 (10 + v) (if ng then -v1 else v1)) := FR_up0.trans (FR_up (by decide) (by decide) (by have : thr 4 = 10 := rfl; omega))
        refine ⟨up2 T5 4 (10 + v) (if ng then -v1 else v1), ?_, ?_⟩
        · -- %m X12_sayWorth
          refine V_aload_n (pc := 81) (i := 0) dX12_sayWorth_81 rfl rfl ?_
          refine V_iconst (pc := 82) (v := 0) dX12_sayWorth_82 (by decide) ?_
          refine V_bipush (pc := 83) (v := 9) dX12_sayWorth_83 (by decide) ?_
          refine V_V2i (pc := 85) dX12_sayWorth_85 cX12_223 (by first | assumption | rfl) k1 (Nat.le_of_ble_eq_true rfl) (by omega) (Nat.le_of_ble_eq_true rfl) ?_
          refine V_istore_n (pc := 88) (i := 3) dX12_sayWorth_88 rfl (by decide) rfl ?_
          refine V_aload_n (pc := 89) (i := 0) dX12_sayWorth_89 rfl rfl ?_
          refine VW_getR (pc := 90) dX12_sayWorth_90 fX12_40 (by first | assumption | rfl) rfl ?_
          refine V_bipush (pc := 93) (v := 10) dX12_sayWorth_93 (by decide) ?_
          refine V_iload_n (pc := 95) (i := 1) dX12_sayWorth_95 rfl rfl ?_
          refine V_iadd (pc := 96) dX12_sayWorth_96 ?_
          rw [show (10 : Int32) + nI v = nI (10 + v) from nI_add 10 v]
          refine V_iload_n (pc := 97) (i := 2) dX12_sayWorth_97 rfl rfl ?_
          cases ng with
          | false =>
            refine V_if_eq (pc := 98) 106 dX12_sayWorth_98 rfl (fun _ => ?_) (fun c => absurd rfl c)
            refine V_iload_n (pc := 106) (i := 3) dX12_sayWorth_106 rfl rfl ?_
            refine VW_iastN (pc := 107) dX12_sayWorth_107 (by first | assumption | rfl) (by assumption) (j := 10 + v) rfl (by omega) (by first | decide | omega) ?_
            exact VE_vret (pc := 108) dX12_sayWorth_108 rfl rfl
          | true =>
            refine V_if_eq (pc := 98) 106 dX12_sayWorth_98 rfl (fun c => absurd c (by decide)) (fun _ => ?_)
            refine V_iload_n (pc := 101) (i := 3) dX12_sayWorth_101 rfl rfl ?_
            refine V_ineg (pc := 102) dX12_sayWorth_102 ?_
            refine V_goto (pc := 103) 107 dX12_sayWorth_103 rfl ?_
            refine VW_iastN (pc := 107) dX12_sayWorth_107 (by first | assumption | rfl) (by assumption) (j := 10 + v) rfl (by omega) (by first | decide | omega) ?_
            exact VE_vret (pc := 108) dX12_sayWorth_108 rfl rfl
        · unfold hdW3
          rcases n5 with ⟨g1, g2, g3⟩ | ⟨g1, g2⟩
          · have c5' := c5.resolve_left g1
            rw [if_neg g1]
            refine LH_t (RTk_of g2 ?_ ?_ (fun j _ _ => by rw [up2_row (by decide)]) (by rw [up2_row (by decide)])) (by rw [up2_row (by decide)]; exact g3) ?_ (evF.FR fr)
            · unfold twS; simp (disch := omega) only [up2_row]
            · unfold twS; simp (disch := omega) only [up2_row]
            · have eD : ∀ k, k ≠ 1 → k ≠ 2 → (tkW S4 0 9).2 k = S k := fun k q1 q2 => by rw [tkW_off q1 q2]; exact ag k q1 q2
              rw [← c5'.1]
              refine Ev.RD (W := woM T v (if ng then -v1 else v1)) evF ?_
              refine RD_S (RD_wo rd (by omega)) ?_
              unfold twS
              rw [eD t (by omega) (by omega)]
              exact (show Ag _ S from eD).up.up
          · rw [if_pos g1]
            exact LH_f (RB_up g2 (by decide)) (evF.FR fr)
      have hag : Ag (adv (adv S)) S := fun k q1 q2 => by rw [adv_off q2, adv_off q2]
      have tail : ∀ T', V G mX12_sayWorth d 0 0 (xE none (wH G b tbM T' h0)) 66 [some (.ref (b + 0)), some (.int (nI v)), none, none] [] (wH G b tbM T3 h0) → VM G mX12_sayWorth d 0 0 [.ref (b + 0)] (xE none (wH G b tbM T' h0)) (wH G b tbM T h0) := by
        intro T' kk
        refine VM_start (ls := [some (.ref (b + 0)), none, none, none]) rfl ?_
        -- %m X12_sayWorth
        refine V_aload_n (pc := 0) (i := 0) dX12_sayWorth_0 rfl rfl ?_
        refine VW_getI (pc := 1) dX12_sayWorth_1 fX12_192 (by first | assumption | rfl) rfl ?_
        refine V_if_ne (pc := 4) 11 dX12_sayWorth_4 rfl (fun c => absurd h0' c) (fun _ => ?_)
        refine V_aload_n (pc := 7) (i := 0) dX12_sayWorth_7 rfl rfl ?_
        refine V_V0v (pc := 8) dX12_sayWorth_8 cX12_217 (by first | assumption | rfl) (X12_step (d := 1) r.2.1 hb (by omega)) (Nat.le_of_ble_eq_true rfl) (by omega) (Nat.le_of_ble_eq_true rfl) ?_
        show V G mX12_sayWorth d 0 0 _ 11 _ _ (wH G b tbM (mAd S T) h0)
        refine V_aload_n (pc := 11) (i := 0) dX12_sayWorth_11 rfl rfl ?_
        refine V_iconst (pc := 12) (v := 0) dX12_sayWorth_12 (by decide) ?_
        refine V_bipush (pc := 13) (v := 9) dX12_sayWorth_13 (by decide) ?_
        refine V_V2i (pc := 15) dX12_sayWorth_15 cX12_220 (by first | assumption | rfl) kn (Nat.le_of_ble_eq_true rfl) (by omega) (Nat.le_of_ble_eq_true rfl) ?_
        refine V_istore_n (pc := 18) (i := 1) dX12_sayWorth_18 rfl (by decide) rfl ?_
        refine V_aload_n (pc := 19) (i := 0) dX12_sayWorth_19 rfl rfl ?_
        refine VW_getI (pc := 20) dX12_sayWorth_20 fX12_192 (by first | assumption | rfl) rfl ?_
        refine V_if_ne (pc := 23) 42 dX12_sayWorth_23 rfl (fun c => absurd b1 c) (fun _ => ?_)
        refine V_aload_n (pc := 26) (i := 0) dX12_sayWorth_26 rfl rfl ?_
        refine VW_getI (pc := 27) dX12_sayWorth_27 fX12_260 (by first | assumption | rfl) rfl ?_
        show V G mX12_sayWorth d 0 0 _ 30 _ [.int (mAd S T 0 26)] _
        rw [e26]
        refine V_iload_n (pc := 30) (i := 1) dX12_sayWorth_30 rfl rfl ?_
        refine V_S2i (pc := 31) dX12_sayWorth_31 cX12_263 (X12_isOf (d := 0) _ _) (Nat.le_of_ble_eq_true rfl) (by omega) (Nat.le_of_ble_eq_true rfl) ?_
        refine V_if_eq (pc := 34) 42 dX12_sayWorth_34 rfl (fun _ => ?_) (fun c => absurd (b2i_n0.mp c) hw)
        refine V_aload_n (pc := 42) (i := 0) dX12_sayWorth_42 rfl rfl ?_
        refine VW_getI (pc := 43) dX12_sayWorth_43 fX12_192 (by first | assumption | rfl) rfl ?_
        refine V_if_eq (pc := 46) 50 dX12_sayWorth_46 rfl (fun _ => ?_) (fun c => absurd b1 c)
        refine V_aload_n (pc := 50) (i := 0) dX12_sayWorth_50 rfl rfl ?_
        refine V_V0v (pc := 51) dX12_sayWorth_51 cX12_217 (by first | assumption | rfl) (X12_step (d := 1) r1.2.1 hb (by omega)) (Nat.le_of_ble_eq_true rfl) (by omega) (Nat.le_of_ble_eq_true rfl) ?_
        show V G mX12_sayWorth d 0 0 _ 54 _ _ (wH G b tbM (mAd (adv S) (mAd S T)) h0)
        refine V_aload_n (pc := 54) (i := 0) dX12_sayWorth_54 rfl rfl ?_
        refine V_dup (pc := 55) dX12_sayWorth_55 rfl ?_
        refine VW_getI (pc := 56) dX12_sayWorth_56 fX12_260 (by first | assumption | rfl) rfl ?_
        refine V_iconst (pc := 59) (v := 1) dX12_sayWorth_59 (by decide) ?_
        refine V_iload_n (pc := 60) (i := 1) dX12_sayWorth_60 rfl rfl ?_
        refine V_ishl (pc := 61) dX12_sayWorth_61 ?_
        refine V_ior (pc := 62) dX12_sayWorth_62 ?_
        refine VW_putI (pc := 63) dX12_sayWorth_63 fX12_260 ftX12 (fpI rfl rfl (tyX12_ok 26 (by decide))) (by first | assumption | rfl) rfl (by assumption) ?_
        rw [hT3]
        exact kk
      cases hs : sgn (adv (adv S)) 45 with
      | true =>
        have r5 := RTk_adv r3
        obtain ⟨T', k1, k2⟩ := num true (adv (adv (adv S))) (mAd (adv (adv S)) T3) r5 (by unfold mAd; rw [mStep_0 (by omega)]; exact b3) (ev3.trans Ev_step) (fun k q1 q2 => by rw [adv_off q2]; exact hag k q1 q2)
        exact ⟨T', tail T' (X12_sayWorth_66 r3 b3 hb (by omega) (fun _ => k1) (fun q => by rw [hs] at q; cases q)), by rw [if_pos rfl]; exact k2⟩
      | false =>
        obtain ⟨T', k1, k2⟩ := num false (adv (adv S)) T3 r3 b3 ev3 hag
        exact ⟨T', tail T' (X12_sayWorth_66 r3 b3 hb (by omega) (fun q => by rw [hs] at q; cases q) (fun _ => k1)), by rw [if_neg (by decide)]; exact k2⟩
  · rw [show nmW (adv S) 0 9 = nmW (adv S) (nI 0) 9 from rfl, if_pos e1, e2]
    have k0 : ¬ k = 0 := by rcases hk with q | q <;> subst q <;> decide
    rw [e3] at kn
    refine ⟨wrg (mAd S T) k, ?_, LH_f (RB_wrg r1 k0) (EX_step.trans EX_wrg).FR⟩
    refine VM_start (ls := [some (.ref (b + 0)), none, none, none]) rfl ?_
    -- %m X12_sayWorth
    refine V_aload_n (pc := 0) (i := 0) dX12_sayWorth_0 rfl rfl ?_
    refine VW_getI (pc := 1) dX12_sayWorth_1 fX12_192 (by first | assumption | rfl) rfl ?_
    refine V_if_ne (pc := 4) 11 dX12_sayWorth_4 rfl (fun c => absurd h0' c) (fun _ => ?_)
    refine V_aload_n (pc := 7) (i := 0) dX12_sayWorth_7 rfl rfl ?_
    refine V_V0v (pc := 8) dX12_sayWorth_8 cX12_217 (by first | assumption | rfl) (X12_step (d := 1) r.2.1 hb (by omega)) (Nat.le_of_ble_eq_true rfl) (by omega) (Nat.le_of_ble_eq_true rfl) ?_
    show V G mX12_sayWorth d 0 0 _ 11 _ _ (wH G b tbM (mAd S T) h0)
    clear e1 e2 e3 e4
    refine V_aload_n (pc := 11) (i := 0) dX12_sayWorth_11 rfl rfl ?_
    refine V_iconst (pc := 12) (v := 0) dX12_sayWorth_12 (by decide) ?_
    refine V_bipush (pc := 13) (v := 9) dX12_sayWorth_13 (by decide) ?_
    refine V_V2i (pc := 15) dX12_sayWorth_15 cX12_220 (by first | assumption | rfl) kn (Nat.le_of_ble_eq_true rfl) (by omega) (Nat.le_of_ble_eq_true rfl) ?_
    show V G mX12_sayWorth d 0 0 _ 18 _ [.int 0] (wH G b tbM (wrg (mAd S T) k) h0)
    generalize hU : wrg (mAd S T) k = U
    have u23 : ¬ U 0 23 = 0 := by rw [← hU]; exact wrg_23 k0
    clear hU
    refine V_istore_n (pc := 18) (i := 1) dX12_sayWorth_18 rfl (by decide) rfl ?_
    refine V_aload_n (pc := 19) (i := 0) dX12_sayWorth_19 rfl rfl ?_
    refine VW_getI (pc := 20) dX12_sayWorth_20 fX12_192 (by first | assumption | rfl) rfl ?_
    refine V_if_ne (pc := 23) 42 dX12_sayWorth_23 rfl (fun _ => ?_) (fun c => absurd c u23)
    refine V_aload_n (pc := 42) (i := 0) dX12_sayWorth_42 rfl rfl ?_
    refine VW_getI (pc := 43) dX12_sayWorth_43 fX12_192 (by first | assumption | rfl) rfl ?_
    refine V_if_eq (pc := 46) 50 dX12_sayWorth_46 rfl (fun c => absurd c u23) (fun _ => ?_)
    exact VE_vret (pc := 49) dX12_sayWorth_49 rfl rfl
def xIm (G : xG) (b : Nat) (h0 : xH) (P : Int32 → (Nat → Nat → Int32) → Prop) : xR → xH → Prop := fun r h => ∃ v T', r = .inl (some (.int v)) ∧ h = wH G b tbM T' h0 ∧ P v T'
theorem V_X1i {v1 : Value} {P : Int32 → (Nat → Nat → Int32) → Prop} (dg : decode M.2.1 pc = .ok (.invokevirtual idx, 3)) (cs : CV M.1.cls idx M' 1 12) {ks : List Nat} (hk : tbM[0]? = some (.inr (12, ks))) (hV : VM G M' d' 0 0 [.ref (b + 0), v1] (xIm G b h0 P) (wH G b tbM S h0)) (hlen : (lg_sl [.ref (b + 0), v1]).length ≤ M'.2.2.1) (hd : d' + 1 ≤ d) (hr : (st.map fun v => v.category).sum ≤ 8) (k : ∀ v T', P v T' → V G M d bc bs Q (pc + 3) ls (.int v :: st) (wH G b tbM T' h0)) : V G M d bc bs Q pc ls (v1 :: .ref (b + 0) :: st) (wH G b tbM S h0) :=
  V_callV dg cs (wH_at hk) hV rfl hlen rfl hd (bc' := bc) (bs' := bs) (by omega) (by omega) hr (fun v h' hq => by obtain ⟨v', T', e, rfl, hp⟩ := hq; cases e; exact k v' T' hp) (fun E h' hq => by obtain ⟨v', T', e, -⟩ := hq; cases e)
theorem wrd_ex {l1 l2 : List Int32} (h : wrd S l1 = true) (hne : (decide (l1.length = l2.length) && decide (l1.getD 0 0 = l2.getD 0 0)) = false) (h1 : 0 < l1.length) (h2 : 0 < l2.length) : wrd S l2 = false := by
  cases h' : wrd S l2 with
  | false => rfl
  | true =>
    exfalso
    unfold wrd at h h'
    simp only [Bool.and_eq_true, decide_eq_true_eq] at h h'
    obtain ⟨⟨-, a2⟩, a3⟩ := h
    obtain ⟨⟨-, c2⟩, c3⟩ := h'
    obtain ⟨m1, e1⟩ := Nat.exists_eq_succ_of_ne_zero (show l1.length ≠ 0 by omega)
    obtain ⟨m2, e2⟩ := Nat.exists_eq_succ_of_ne_zero (show l2.length ≠ 0 by omega)
    rw [e1, wrdF] at a3
    rw [e2, wrdF] at c3
    split at a3
    · next q1 =>
      split at c3
      · next q2 =>
        rw [decide_eq_true (a2.symm.trans c2), decide_eq_true (q1.symm.trans q2)] at hne
        cases hne
      · cases c3
    · cases a3
end P12
