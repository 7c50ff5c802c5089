/-! ===== both readers side by side: the model's lines ===== -/
section P11
variable {G : xG} {d : Nat} {b : Nat} {S S' S1 S2 S3 T T' T1 T2 T3 U W Z : Nat → Nat → Int32} {h0 h : xH} {t w : Nat}
/-- the same but for where the reader stands -/
def Ev (W T : Nat → Nat → Int32) : Prop := (∀ k, k ≠ 0 → T k = W k) ∧ ∀ j, j < 17 ∨ j = 18 ∨ 24 < j → T 0 j = W 0 j
theorem Ev.rfl' : Ev T T := ⟨fun _ _ => rfl, fun _ _ => rfl⟩
theorem Ev.trans (a : Ev W T) (c : Ev T U) : Ev W U := ⟨fun k h => (c.1 k h).trans (a.1 k h), fun j h => (c.2 j h).trans (a.2 j h)⟩
theorem Ev.of (a : EX W T) (h3 : T 3 = W 3) (h13 : T 13 = W 13) : Ev W T := ⟨fun k h => by
  by_cases e : k = 3
  · subst e; exact h3
  · by_cases e2 : k = 13
    · subst e2; exact h13
    · exact a.1 k h e e2, fun j h => a.2.1 j h⟩
theorem Ev.up {k j : Nat} {x : Int32} (a : Ev W T) (hk : k ≠ 0) : Ev (up2 W k j x) (up2 T k j x) := ⟨fun q h => by
  by_cases e : q = k
  · subst e
    funext i
    by_cases e2 : i = j
    · subst e2; rw [up2_same, up2_same]
    · rw [up2_col e2, up2_col e2, a.1 q h]
  · rw [up2_row e, up2_row e]; exact a.1 q h, fun i h => by rw [up2_row (by omega), up2_row (by omega)]; exact a.2 i h⟩
theorem Ev.FR (a : Ev W T) (f : FR Z W) : FR Z T := ⟨fun k h => (a.1 k (by omega)).trans (f.1 k h), fun k j h1 h2 h3 => by rw [a.1 k (by omega)]; exact f.2.1 k j h1 h2 h3, fun j h => (a.2 j (by omega)).trans (f.2.2 j h)⟩
theorem Ev.RD {dn : Nat} (a : Ev W T) (h : RD S W t dn) : RD S T t dn := RD_T h a.1 (a.2 26 (by omega))
/-- the same but for Reader and Tape -/
def Ag (A B : Nat → Nat → Int32) : Prop := ∀ k, k ≠ 1 → k ≠ 2 → A k = B k
theorem Ag.up {A B : Nat → Nat → Int32} {k j : Nat} {x : Int32} (a : Ag A B) : Ag (up2 A k j x) (up2 B k j x) := fun q h1 h2 => by
  by_cases e : q = k
  · subst e
    funext i
    by_cases e2 : i = j
    · subst e2; rw [up2_same, up2_same]
    · rw [up2_col e2, up2_col e2, a q h1 h2]
  · rw [up2_row e, up2_row e]; exact a q h1 h2
theorem LH_f {dn : Nat} (h1 : RB S1 T) (h2 : FR Z T) : LH (false, S1) Z t dn T := Or.inr ⟨rfl, h1, h2⟩
theorem LH_t {dn : Nat} (h1 : RTk S1 T) (h2 : T 0 23 = 0) (h3 : RD S1 T t dn) (h4 : FR Z T) : LH (true, S1) Z t dn T := Or.inl ⟨rfl, h1, h2, h3, h4⟩
theorem Ev_step {L p : Nat} : Ev T (mStep T L p) := ⟨fun k h => mStep_off h, fun j h => mStep_0 (by omega)⟩
theorem Ev_wrg {k : Int32} : Ev T (wrg T k) := ⟨fun k h1 => by unfold wrg; rw [up2_row h1, up2_row h1], fun j h => by unfold wrg; rw [up2_col (by omega), up2_col (by omega)]⟩
theorem X12_rdE {A : Int32 × (Nat → Nat → Int32)} (l : Nat) (hi : Int32) (n : NG A T) (hl : l < 2 ^ 31) (hb : gB G ≤ b) (hd : 2 ≤ d) : ∃ (v : Int32) (T' : Nat → Nat → Int32), VM G mX12_readNumber d 0 0 [.ref (b + 0), .int (nI l), .int hi] (xE (some (.int v)) (wH G b tbM T' h0)) (wH G b tbM T h0) ∧ NG (thn A (nI l) hi) T' ∧ Ev T T' ∧ ((thn A (nI l) hi).1 = -1 ∨ (v = (thn A (nI l) hi).1 ∧ ¬ A.1 = -1 ∧ ∃ w, w < 10000 ∧ v = nI w ∧ ¬ nI w < nI l ∧ ¬ hi < nI w)) := by
  obtain ⟨v, T', k1, k2, k3, k4, k5, k6⟩ := X12_rdN (G := G) (d := d) (b := b) (h0 := h0) (hi := hi) n hl hb hd
  exact ⟨v, T', k1, k2, Ev.of k3 k4 k5, k6⟩
theorem thn_0 {lo hi : Int32} : thn (0, S) lo hi = tkW S lo hi := by unfold thn; rw [if_neg (show ¬ (0 : Int32) = -1 by decide)]
theorem w_le {w m : Nat} {hi : Int32} (h : ¬ hi < nI w) (hw : w < 10000) (hh : hi = nI m) (hm : m < 2 ^ 31) : w ≤ m := by
  subst hh
  exact (nI_leI (by omega) hm).mp (Int32.not_lt.mp h)
/-- an IF, up to its last sign -/
def hdI (t : Nat) (un x y : Int32) (D : Int32 × (Nat → Nat → Int32)) : Bool × (Nat → Nat → Int32) := if D.1 = -1 then (false, D.2) else (true, ifsAdd D.2 (t + 2) (D.2 (t + 2) 4).toNatClampNeg x y D.1 un)
def hdIf (t : Nat) (un : Int32) (S : Nat → Nat → Int32) : Bool × (Nat → Nat → Int32) := if S (t + 2) 4 < 12 then hdI t un (tkW (adv S) 0 1023).1 (thn (tkW (adv S) 0 1023) 0 1023).1 (thn (thn (tkW (adv S) 0 1023) 0 1023) 0 9) else (false, rfs S 2)
theorem rdI3_hd {un x y : Int32} {D : Int32 × (Nat → Nat → Int32)} : rdI3 t un x y D = if (hdI t un x y D).1 then tkS (hdI t un x y D).2 59 else (false, (hdI t un x y D).2) := by
  unfold rdI3 hdI
  by_cases c : D.1 = -1
  · rw [if_pos c, if_pos c]; rfl
  · rw [if_neg c, if_neg c]; rfl
theorem rdIf_hd {un : Int32} : rdIf t un S = if (hdIf t un S).1 then tkS (hdIf t un S).2 59 else (false, (hdIf t un S).2) := by
  unfold rdIf hdIf
  by_cases c : S (t + 2) 4 < 12
  · rw [if_pos c, if_pos c]; exact rdI3_hd
  · rw [if_neg c, if_neg c]; rfl
theorem X12_sayIf {dn u : Nat} (hu : u ≤ 1) (r : RTk S T) (h0' : T 0 23 = 0) (rd : RD S T t dn) (hb : gB G ≤ b) (hd : 3 ≤ d) : ∃ T', VM G mX12_sayIf d 0 0 [.ref (b + 0), .int (nI u)] (xE none (wH G b tbM T' h0)) (wH G b tbM T h0) ∧ LH (hdIf t (nI u) S) T t dn T' := by
  obtain ⟨pp, n, rr, ht, -, ⟨en, en', hn, -⟩, -⟩ := id rd
  by_cases h12 : n = 12
  · subst h12
    refine ⟨wrg T 2, ?_, Or.inr ?_⟩
    · refine VM_start (ls := [some (.ref (b + 0)), some (.int (nI u)), none]) rfl ?_
      -- %m X12_sayIf
      refine V_aload_n (pc := 0) (i := 0) dX12_sayIf_0 rfl rfl ?_
      refine V_iconst (pc := 1) (v := 1) dX12_sayIf_1 (by decide) ?_
      refine V_bipush (pc := 2) (v := 12) dX12_sayIf_2 (by decide) ?_
      refine V_V2i (pc := 4) dX12_sayIf_4 cX12_267 (by first | assumption | rfl) (X12_another_no (d := 1) (k := 1) (by decide) en' h0' hb (by omega)) (Nat.le_of_ble_eq_true rfl) (by omega) (Nat.le_of_ble_eq_true rfl) ?_
      refine V_if_ne (pc := 7) 11 dX12_sayIf_7 rfl (fun c => absurd rfl c) (fun _ => ?_)
      exact VE_vret (pc := 10) dX12_sayIf_10 rfl rfl
    · unfold hdIf
      rw [if_neg (by rw [en]; decide)]
      exact ⟨rfl, RB_wrg r (by decide), EX_wrg.FR⟩
  · have hlt : n < 12 := by omega
    have n2 : NG (0, adv S) (up2 (mAd S T) 9 (12 + n) (nI u)) := NG_up (Or.inl ⟨by show ¬ (0 : Int32) = -1; decide, RTk_adv r, by unfold mAd; rw [mStep_0 (by omega)]; exact h0'⟩) (by decide) (by decide)
    obtain ⟨v1, T3, k1, n3, e3, c3⟩ := X12_rdE (G := G) (d := 2) (b := b) (h0 := h0) 0 1023 n2 (by decide) hb (by omega)
    have n4 := NG_up (k := 10) (j := 12 + n) (x := v1) n3 (by decide) (by decide)
    obtain ⟨v2, T5, k2, n5, e5, c5⟩ := X12_rdE (G := G) (d := 2) (b := b) (h0 := h0) 0 1023 n4 (by decide) hb (by omega)
    have n6 := NG_up (k := 11) (j := 12 + n) (x := v2) n5 (by decide) (by decide)
    obtain ⟨v3, T7, k3, n7, e7, c7⟩ := X12_rdE (G := G) (d := 2) (b := b) (h0 := h0) 0 9 n6 (by decide) hb (by omega)
    rw [show nI 0 = (0 : Int32) from rfl, thn_0] at n3 n5 n7 c3 c5 c7
    have ev : Ev (up2 (up2 (up2 (up2 T 9 (12 + n) (nI u)) 10 (12 + n) v1) 11 (12 + n) v2) 12 (12 + n) v3) (up2 T7 12 (12 + n) v3) := ((((((Ev_step (T := T) (L := tL S) (p := tE S)).up (k := 9) (j := 12 + n) (x := nI u) (by decide)).trans e3).up (k := 10) (j := 12 + n) (x := v1) (by decide)).trans e5).up (k := 11) (j := 12 + n) (x := v2) (by decide)).trans e7 |>.up (k := 12) (j := 12 + n) (x := v3) (by decide)
    have e35 : up2 T7 12 (12 + n) v3 3 5 = nI n := by rw [ev.1 3 (by decide)]; simp (disch := omega) only [up2_row]; exact en'
    have ev9 := ev.up (k := 3) (j := 5) (x := nI (n + 1)) (by decide)
    have fr : FR T (ifM T n v1 v2 v3 (nI u)) := ((((FR_up (by decide) (by decide) (by have : thr 9 = 12 := rfl; omega)).trans (FR_up (by decide) (by decide) (by have : thr 10 = 12 := rfl; omega))).trans (FR_up (by decide) (by decide) (by have : thr 11 = 12 := rfl; omega))).trans (FR_up (by decide) (by decide) (by have : thr 12 = 12 := rfl; omega))).trans (FR_up (by decide) (by decide) (by have : thr 3 = 4 := rfl; omega))
    refine ⟨up2 (up2 T7 12 (12 + n) v3) 3 5 (nI (n + 1)), ?_, ?_⟩
    · refine VM_start (ls := [some (.ref (b + 0)), some (.int (nI u)), none]) rfl ?_
      -- %m X12_sayIf
      refine V_aload_n (pc := 0) (i := 0) dX12_sayIf_0 rfl rfl ?_
      refine V_iconst (pc := 1) (v := 1) dX12_sayIf_1 (by decide) ?_
      refine V_bipush (pc := 2) (v := 12) dX12_sayIf_2 (by decide) ?_
      refine V_V2i (pc := 4) dX12_sayIf_4 cX12_267 (by first | assumption | rfl) (X12_another_ok (d := 2) (k := 1) (by decide) (fun q => h12 ((nI_eq (b := 12) (by omega) (by decide)).mp (en'.symm.trans q))) r.2.1 h0' hb (by omega)) (Nat.le_of_ble_eq_true rfl) (by omega) (Nat.le_of_ble_eq_true rfl) ?_
      refine V_if_ne (pc := 7) 11 dX12_sayIf_7 rfl (fun _ => ?_) (fun c => absurd c (by decide))
      refine V_bipush (pc := 11) (v := 12) dX12_sayIf_11 (by decide) ?_
      refine V_aload_n (pc := 13) (i := 0) dX12_sayIf_13 rfl rfl ?_
      refine VW_getR (pc := 14) dX12_sayIf_14 fX12_36 (by first | assumption | rfl) rfl ?_
      refine V_iconst (pc := 17) (v := 5) dX12_sayIf_17 (by decide) ?_
      refine VW_ialdN (pc := 18) dX12_sayIf_18 (by first | assumption | rfl) (j := 5) rfl (by decide) (by first | decide | omega) ?_
      rw [mStep_off (by decide), en']
      refine V_iadd (pc := 19) dX12_sayIf_19 ?_
      rw [show (12 : Int32) + nI n = nI (12 + n) from nI_add 12 n]
      refine V_istore_n (pc := 20) (i := 2) dX12_sayIf_20 rfl (by decide) rfl ?_
      refine V_aload_n (pc := 21) (i := 0) dX12_sayIf_21 rfl rfl ?_
      refine VW_getR (pc := 22) dX12_sayIf_22 fX12_55 (by first | assumption | rfl) rfl ?_
      refine V_iload_n (pc := 25) (i := 2) dX12_sayIf_25 rfl rfl ?_
      refine V_iload_n (pc := 26) (i := 1) dX12_sayIf_26 rfl rfl ?_
      refine VW_iastN (pc := 27) dX12_sayIf_27 (by first | assumption | rfl) (by assumption) (j := 12 + n) rfl (by omega) (by first | decide | omega) ?_
      refine V_aload_n (pc := 28) (i := 0) dX12_sayIf_28 rfl rfl ?_
      refine VW_getR (pc := 29) dX12_sayIf_29 fX12_58 (by first | assumption | rfl) rfl ?_
      refine V_iload_n (pc := 32) (i := 2) dX12_sayIf_32 rfl rfl ?_
      refine V_aload_n (pc := 33) (i := 0) dX12_sayIf_33 rfl rfl ?_
      refine V_iconst (pc := 34) (v := 0) dX12_sayIf_34 (by decide) ?_
      refine V_sipush (pc := 35) (v := 1023) dX12_sayIf_35 (by decide) ?_
      refine V_V2i (pc := 38) dX12_sayIf_38 cX12_223 (by first | assumption | rfl) k1 (Nat.le_of_ble_eq_true rfl) (by omega) (Nat.le_of_ble_eq_true rfl) ?_
      refine VW_iastN (pc := 41) dX12_sayIf_41 (by first | assumption | rfl) (by assumption) (j := 12 + n) rfl (by omega) (by first | decide | omega) ?_
      refine V_aload_n (pc := 42) (i := 0) dX12_sayIf_42 rfl rfl ?_
      refine VW_getR (pc := 43) dX12_sayIf_43 fX12_61 (by first | assumption | rfl) rfl ?_
      refine V_iload_n (pc := 46) (i := 2) dX12_sayIf_46 rfl rfl ?_
      refine V_aload_n (pc := 47) (i := 0) dX12_sayIf_47 rfl rfl ?_
      refine V_iconst (pc := 48) (v := 0) dX12_sayIf_48 (by decide) ?_
      refine V_sipush (pc := 49) (v := 1023) dX12_sayIf_49 (by decide) ?_
      refine V_V2i (pc := 52) dX12_sayIf_52 cX12_223 (by first | assumption | rfl) k2 (Nat.le_of_ble_eq_true rfl) (by omega) (Nat.le_of_ble_eq_true rfl) ?_
      refine VW_iastN (pc := 55) dX12_sayIf_55 (by first | assumption | rfl) (by assumption) (j := 12 + n) rfl (by omega) (by first | decide | omega) ?_
      refine V_aload_n (pc := 56) (i := 0) dX12_sayIf_56 rfl rfl ?_
      refine VW_getR (pc := 57) dX12_sayIf_57 fX12_64 (by first | assumption | rfl) rfl ?_
      refine V_iload_n (pc := 60) (i := 2) dX12_sayIf_60 rfl rfl ?_
      refine V_aload_n (pc := 61) (i := 0) dX12_sayIf_61 rfl rfl ?_
      refine V_iconst (pc := 62) (v := 0) dX12_sayIf_62 (by decide) ?_
      refine V_bipush (pc := 63) (v := 9) dX12_sayIf_63 (by decide) ?_
      refine V_V2i (pc := 65) dX12_sayIf_65 cX12_223 (by first | assumption | rfl) k3 (Nat.le_of_ble_eq_true rfl) (by omega) (Nat.le_of_ble_eq_true rfl) ?_
      refine VW_iastN (pc := 68) dX12_sayIf_68 (by first | assumption | rfl) (by assumption) (j := 12 + n) rfl (by omega) (by first | decide | omega) ?_
      refine V_aload_n (pc := 69) (i := 0) dX12_sayIf_69 rfl rfl ?_
      refine VW_getR (pc := 70) dX12_sayIf_70 fX12_36 (by first | assumption | rfl) rfl ?_
      refine V_iconst (pc := 73) (v := 5) dX12_sayIf_73 (by decide) ?_
      refine V_dup2 (pc := 74) dX12_sayIf_74 rfl rfl ?_
      refine VW_ialdN (pc := 75) dX12_sayIf_75 (by first | assumption | rfl) (j := 5) rfl (by decide) (by first | decide | omega) ?_
      rw [e35]
      refine V_iconst (pc := 76) (v := 1) dX12_sayIf_76 (by decide) ?_
      refine V_iadd (pc := 77) dX12_sayIf_77 ?_
      rw [nI_1]
      refine VW_iastN (pc := 78) dX12_sayIf_78 (by first | assumption | rfl) (by assumption) (j := 5) rfl (by decide) (by first | decide | omega) ?_
      exact VE_vret (pc := 79) dX12_sayIf_79 rfl rfl
    · unfold hdIf
      rw [if_pos (by rw [en]; exact nI_lt (b := 12) (by omega) (by decide))]
      unfold hdI
      rcases n7 with ⟨g1, g2, g3⟩ | ⟨g1, g2⟩
      · have c7' := c7.resolve_left g1
        have c5' := c5.resolve_left c7'.2.1
        have c3' := c3.resolve_left c5'.2.1
        obtain ⟨w3, hw3, ew3, lw3, uw3⟩ := c7'.2.2
        have hg := w_le uw3 hw3 (m := 9) rfl (by decide)
        rw [if_neg g1]
        refine LH_t (RTk_of g2 ?_ ?_ (fun j _ _ => by rw [up2_row (by decide), up2_row (by decide)]) (by rw [up2_row (by decide), up2_row (by decide)])) (by rw [up2_row (by decide), up2_row (by decide)]; exact g3) ?_ (ev9.FR fr)
        · unfold ifsAdd; simp (disch := omega) only [up2_row]
        · unfold ifsAdd; simp (disch := omega) only [up2_row]
        · have eD : ∀ k, k ≠ 1 → k ≠ 2 → (thn (thn (tkW (adv S) 0 1023) 0 1023) 0 9).2 k = S k := fun k q1 q2 => by rw [thn_off q1 q2, thn_off q1 q2, tkW_off q1 q2, adv_off q2]
          rw [← c3'.1, ← c5'.1, ← c7'.1, eD (t + 2) (by omega) (by omega), en, nI_clamp (by omega)]
          refine Ev.RD (W := ifM T n v1 v2 v3 (nI u)) ev9 ?_
          have rd2 := RD_if (x := v1) (y := v2) (u := nI u) (g := w3) rd en hlt (by omega) (by rcases (show u = 0 ∨ u = 1 by omega) with q | q <;> subst q <;> decide)
          rw [← ew3] at rd2
          refine RD_S rd2 ?_
          unfold ifsAdd
          rw [eD (t + 2) (by omega) (by omega)]
          exact ((((show Ag _ S from eD).up.up).up).up).up
      · rw [if_pos g1]
        exact LH_f (RB_up (RB_up g2 (by decide)) (by decide)) (ev9.FR fr)
/-- a person, up to the last sign -/
def hdP (t : Nat) (x y z : Int32) (D : Int32 × (Nat → Nat → Int32)) : Bool × (Nat → Nat → Int32) := if D.1 = -1 then (false, D.2) else (true, shAdd D.2 t (D.2 t 7).toNatClampNeg x y z D.1)
def hdP1 (t : Nat) (A : Int32 × (Nat → Nat → Int32)) : Bool × (Nat → Nat → Int32) := hdP t A.1 (thn A 0 9).1 (thn (thn A 0 9) 0 9).1 (thn (thn (thn A 0 9) 0 9) 0 99)
def hdPe (t : Nat) (S : Nat → Nat → Int32) : Bool × (Nat → Nat → Int32) := if S t 7 < 8 then hdP1 t (tkW (adv S) 0 1023) else (false, rfs S 2)
theorem rdP4_hd {x y z : Int32} {D : Int32 × (Nat → Nat → Int32)} : rdP4 t x y z D = if (hdP t x y z D).1 then tkS (hdP t x y z D).2 59 else (false, (hdP t x y z D).2) := by
  unfold rdP4 hdP
  by_cases c : D.1 = -1
  · rw [if_pos c, if_pos c]; rfl
  · rw [if_neg c, if_neg c]; rfl
theorem rdP1_hd {A : Int32 × (Nat → Nat → Int32)} : rdP1 t A = if (hdP1 t A).1 then tkS (hdP1 t A).2 59 else (false, (hdP1 t A).2) := by
  unfold rdP1 rdP2 hdP1
  exact rdP4_hd
theorem rdPe_hd : rdPerson t S = if (hdPe t S).1 then tkS (hdPe t S).2 59 else (false, (hdPe t S).2) := by
  unfold rdPerson hdPe
  by_cases c : S t 7 < 8
  · rw [if_pos c, if_pos c]; exact rdP1_hd
  · rw [if_neg c, if_neg c]; rfl
theorem X12_sayPerson {dn : Nat} (r : RTk S T) (h0' : T 0 23 = 0) (rd : RD S T t dn) (hb : gB G ≤ b) (hd : 3 ≤ d) : ∃ T', VM G mX12_sayPerson d 0 0 [.ref (b + 0)] (xE none (wH G b tbM T' h0)) (wH G b tbM T h0) ∧ LH (hdPe t S) T t dn T' := by
  obtain ⟨pp, n, rr, ht, ⟨en, en', hn⟩, -⟩ := id rd
  by_cases h12 : pp = 8
  · subst h12
    refine ⟨wrg T 2, ?_, ?_⟩
    · refine VM_start (ls := [some (.ref (b + 0)), none]) rfl ?_
      -- %m X12_sayPerson
      refine V_aload_n (pc := 0) (i := 0) dX12_sayPerson_0 rfl rfl ?_
      refine V_iconst (pc := 1) (v := 0) dX12_sayPerson_1 (by decide) ?_
      refine V_bipush (pc := 2) (v := 8) dX12_sayPerson_2 (by decide) ?_
      refine V_V2i (pc := 4) dX12_sayPerson_4 cX12_267 (by first | assumption | rfl) (X12_another_no (d := 1) (k := 0) (by decide) en' h0' hb (by omega)) (Nat.le_of_ble_eq_true rfl) (by omega) (Nat.le_of_ble_eq_true rfl) ?_
      refine V_if_ne (pc := 7) 11 dX12_sayPerson_7 rfl (fun c => absurd rfl c) (fun _ => ?_)
      exact VE_vret (pc := 10) dX12_sayPerson_10 rfl rfl
    · unfold hdPe
      rw [if_neg (by rw [en]; decide)]
      exact LH_f (RB_wrg r (by decide)) EX_wrg.FR
  · have hlt : pp < 8 := by omega
    have n2 : NG (0, adv S) (mAd S T) := Or.inl ⟨by show ¬ (0 : Int32) = -1; decide, RTk_adv r, by unfold mAd; rw [mStep_0 (by omega)]; exact h0'⟩
    obtain ⟨v1, T3, k1, n3, e3, c3⟩ := X12_rdE (G := G) (d := 2) (b := b) (h0 := h0) 0 1023 n2 (by decide) hb (by omega)
    have n4 := NG_up (k := 5) (j := 8 + pp) (x := v1) n3 (by decide) (by decide)
    obtain ⟨v2, T5, k2, n5, e5, c5⟩ := X12_rdE (G := G) (d := 2) (b := b) (h0 := h0) 0 9 n4 (by decide) hb (by omega)
    have n6 := NG_up (k := 6) (j := 8 + pp) (x := v2) n5 (by decide) (by decide)
    obtain ⟨v3, T7, k3, n7, e7, c7⟩ := X12_rdE (G := G) (d := 2) (b := b) (h0 := h0) 0 9 n6 (by decide) hb (by omega)
    have n8 := NG_up (k := 7) (j := 8 + pp) (x := v3) n7 (by decide) (by decide)
    obtain ⟨v4, T9, k4, n9, e9, c9⟩ := X12_rdE (G := G) (d := 2) (b := b) (h0 := h0) 0 99 n8 (by decide) hb (by omega)
    rw [show nI 0 = (0 : Int32) from rfl, thn_0] at n3 n5 n7 n9 c3 c5 c7 c9
    have ev : Ev (up2 (up2 (up2 (up2 T 5 (8 + pp) v1) 6 (8 + pp) v2) 7 (8 + pp) v3) 8 (8 + pp) v4) (up2 T9 8 (8 + pp) v4) := ((((((Ev_step (T := T) (L := tL S) (p := tE S)).trans e3).up (k := 5) (j := 8 + pp) (x := v1) (by decide)).trans e5).up (k := 6) (j := 8 + pp) (x := v2) (by decide)).trans e7 |>.up (k := 7) (j := 8 + pp) (x := v3) (by decide) |>.trans e9 |>.up (k := 8) (j := 8 + pp) (x := v4) (by decide))
    have e35 : up2 T9 8 (8 + pp) v4 3 4 = nI pp := by rw [ev.1 3 (by decide)]; simp (disch := omega) only [up2_row]; exact en'
    have evF := ev.up (k := 3) (j := 4) (x := nI (pp + 1)) (by decide)
    have fr : FR T (peM T pp v1 v2 v3 v4) := ((((FR_up (by decide) (by decide) (by have : thr 5 = 8 := rfl; omega)).trans (FR_up (by decide) (by decide) (by have : thr 6 = 8 := rfl; omega))).trans (FR_up (by decide) (by decide) (by have : thr 7 = 8 := rfl; omega))).trans (FR_up (by decide) (by decide) (by have : thr 8 = 8 := rfl; omega))).trans (FR_up (by decide) (by decide) (by have : thr 3 = 4 := rfl; omega))
    refine ⟨up2 (up2 T9 8 (8 + pp) v4) 3 4 (nI (pp + 1)), ?_, ?_⟩
    · refine VM_start (ls := [some (.ref (b + 0)), none]) rfl ?_
      -- %m X12_sayPerson
      refine V_aload_n (pc := 0) (i := 0) dX12_sayPerson_0 rfl rfl ?_
      refine V_iconst (pc := 1) (v := 0) dX12_sayPerson_1 (by decide) ?_
      refine V_bipush (pc := 2) (v := 8) dX12_sayPerson_2 (by decide) ?_
      refine V_V2i (pc := 4) dX12_sayPerson_4 cX12_267 (by first | assumption | rfl) (X12_another_ok (d := 2) (k := 0) (by decide) (fun q => h12 ((nI_eq (b := 8) (by omega) (by decide)).mp (en'.symm.trans q))) r.2.1 h0' hb (by omega)) (Nat.le_of_ble_eq_true rfl) (by omega) (Nat.le_of_ble_eq_true rfl) ?_
      refine V_if_ne (pc := 7) 11 dX12_sayPerson_7 rfl (fun _ => ?_) (fun c => absurd c (by decide))
      refine V_bipush (pc := 11) (v := 8) dX12_sayPerson_11 (by decide) ?_
      refine V_aload_n (pc := 13) (i := 0) dX12_sayPerson_13 rfl rfl ?_
      refine VW_getR (pc := 14) dX12_sayPerson_14 fX12_36 (by first | assumption | rfl) rfl ?_
      refine V_iconst (pc := 17) (v := 4) dX12_sayPerson_17 (by decide) ?_
      refine VW_ialdN (pc := 18) dX12_sayPerson_18 (by first | assumption | rfl) (j := 4) rfl (by decide) (by first | decide | omega) ?_
      rw [mStep_off (by decide), en']
      refine V_iadd (pc := 19) dX12_sayPerson_19 ?_
      rw [show (8 : Int32) + nI pp = nI (8 + pp) from nI_add 8 pp]
      refine V_istore_n (pc := 20) (i := 1) dX12_sayPerson_20 rfl (by decide) rfl ?_
      refine V_aload_n (pc := 21) (i := 0) dX12_sayPerson_21 rfl rfl ?_
      refine VW_getR (pc := 22) dX12_sayPerson_22 fX12_43 (by first | assumption | rfl) rfl ?_
      refine V_iload_n (pc := 25) (i := 1) dX12_sayPerson_25 rfl rfl ?_
      refine V_aload_n (pc := 26) (i := 0) dX12_sayPerson_26 rfl rfl ?_
      refine V_iconst (pc := 27) (v := 0) dX12_sayPerson_27 (by decide) ?_
      refine V_sipush (pc := 28) (v := 1023) dX12_sayPerson_28 (by decide) ?_
      refine V_V2i (pc := 31) dX12_sayPerson_31 cX12_223 (by first | assumption | rfl) k1 (Nat.le_of_ble_eq_true rfl) (by omega) (Nat.le_of_ble_eq_true rfl) ?_
      refine VW_iastN (pc := 34) dX12_sayPerson_34 (by first | assumption | rfl) (by assumption) (j := 8 + pp) rfl (by omega) (by first | decide | omega) ?_
      refine V_aload_n (pc := 35) (i := 0) dX12_sayPerson_35 rfl rfl ?_
      refine VW_getR (pc := 36) dX12_sayPerson_36 fX12_46 (by first | assumption | rfl) rfl ?_
      refine V_iload_n (pc := 39) (i := 1) dX12_sayPerson_39 rfl rfl ?_
      refine V_aload_n (pc := 40) (i := 0) dX12_sayPerson_40 rfl rfl ?_
      refine V_iconst (pc := 41) (v := 0) dX12_sayPerson_41 (by decide) ?_
      refine V_bipush (pc := 42) (v := 9) dX12_sayPerson_42 (by decide) ?_
      refine V_V2i (pc := 44) dX12_sayPerson_44 cX12_223 (by first | assumption | rfl) k2 (Nat.le_of_ble_eq_true rfl) (by omega) (Nat.le_of_ble_eq_true rfl) ?_
      refine VW_iastN (pc := 47) dX12_sayPerson_47 (by first | assumption | rfl) (by assumption) (j := 8 + pp) rfl (by omega) (by first | decide | omega) ?_
      refine V_aload_n (pc := 48) (i := 0) dX12_sayPerson_48 rfl rfl ?_
      refine VW_getR (pc := 49) dX12_sayPerson_49 fX12_49 (by first | assumption | rfl) rfl ?_
      refine V_iload_n (pc := 52) (i := 1) dX12_sayPerson_52 rfl rfl ?_
      refine V_aload_n (pc := 53) (i := 0) dX12_sayPerson_53 rfl rfl ?_
      refine V_iconst (pc := 54) (v := 0) dX12_sayPerson_54 (by decide) ?_
      refine V_bipush (pc := 55) (v := 9) dX12_sayPerson_55 (by decide) ?_
      refine V_V2i (pc := 57) dX12_sayPerson_57 cX12_223 (by first | assumption | rfl) k3 (Nat.le_of_ble_eq_true rfl) (by omega) (Nat.le_of_ble_eq_true rfl) ?_
      refine VW_iastN (pc := 60) dX12_sayPerson_60 (by first | assumption | rfl) (by assumption) (j := 8 + pp) rfl (by omega) (by first | decide | omega) ?_
      refine V_aload_n (pc := 61) (i := 0) dX12_sayPerson_61 rfl rfl ?_
      refine VW_getR (pc := 62) dX12_sayPerson_62 fX12_52 (by first | assumption | rfl) rfl ?_
      refine V_iload_n (pc := 65) (i := 1) dX12_sayPerson_65 rfl rfl ?_
      refine V_aload_n (pc := 66) (i := 0) dX12_sayPerson_66 rfl rfl ?_
      refine V_iconst (pc := 67) (v := 0) dX12_sayPerson_67 (by decide) ?_
      refine V_bipush (pc := 68) (v := 99) dX12_sayPerson_68 (by decide) ?_
      refine V_V2i (pc := 70) dX12_sayPerson_70 cX12_223 (by first | assumption | rfl) k4 (Nat.le_of_ble_eq_true rfl) (by omega) (Nat.le_of_ble_eq_true rfl) ?_
      refine VW_iastN (pc := 73) dX12_sayPerson_73 (by first | assumption | rfl) (by assumption) (j := 8 + pp) rfl (by omega) (by first | decide | omega) ?_
      refine V_aload_n (pc := 74) (i := 0) dX12_sayPerson_74 rfl rfl ?_
      refine VW_getR (pc := 75) dX12_sayPerson_75 fX12_36 (by first | assumption | rfl) rfl ?_
      refine V_iconst (pc := 78) (v := 4) dX12_sayPerson_78 (by decide) ?_
      refine V_dup2 (pc := 79) dX12_sayPerson_79 rfl rfl ?_
      refine VW_ialdN (pc := 80) dX12_sayPerson_80 (by first | assumption | rfl) (j := 4) rfl (by decide) (by first | decide | omega) ?_
      rw [e35]
      refine V_iconst (pc := 81) (v := 1) dX12_sayPerson_81 (by decide) ?_
      refine V_iadd (pc := 82) dX12_sayPerson_82 ?_
      rw [nI_1]
      refine VW_iastN (pc := 83) dX12_sayPerson_83 (by first | assumption | rfl) (by assumption) (j := 4) rfl (by decide) (by first | decide | omega) ?_
      exact VE_vret (pc := 84) dX12_sayPerson_84 rfl rfl
    · unfold hdPe
      rw [if_pos (by rw [en]; exact nI_lt (b := 8) (by omega) (by decide))]
      unfold hdP1 hdP
      rcases n9 with ⟨g1, g2, g3⟩ | ⟨g1, g2⟩
      · have c9' := c9.resolve_left g1
        have c7' := c7.resolve_left c9'.2.1
        have c5' := c5.resolve_left c7'.2.1
        have c3' := c3.resolve_left c5'.2.1
        obtain ⟨w4, hw4, ew4, lw4, uw4⟩ := c9'.2.2
        obtain ⟨w3, hw3, ew3, lw3, uw3⟩ := c7'.2.2
        obtain ⟨w2, hw2, ew2, lw2, uw2⟩ := c5'.2.2
        obtain ⟨w1, hw1, ew1, lw1, uw1⟩ := c3'.2.2
        have hg1 := w_le uw1 hw1 (m := 1023) rfl (by decide)
        have hg2 := w_le uw2 hw2 (m := 9) rfl (by decide)
        have hg3 := w_le uw3 hw3 (m := 9) rfl (by decide)
        have hg4 := w_le uw4 hw4 (m := 99) rfl (by decide)
        rw [if_neg g1]
        refine LH_t (RTk_of g2 ?_ ?_ (fun j _ _ => by rw [up2_row (by decide), up2_row (by decide)]) (by rw [up2_row (by decide), up2_row (by decide)])) (by rw [up2_row (by decide), up2_row (by decide)]; exact g3) ?_ (evF.FR fr)
        · unfold shAdd; simp (disch := omega) only [up2_row]
        · unfold shAdd; simp (disch := omega) only [up2_row]
        · have eD : ∀ k, k ≠ 1 → k ≠ 2 → (thn (thn (thn (tkW (adv S) 0 1023) 0 9) 0 9) 0 99).2 k = S k := fun k q1 q2 => by rw [thn_off q1 q2, thn_off q1 q2, thn_off q1 q2, tkW_off q1 q2, adv_off q2]
          rw [← c3'.1, ← c5'.1, ← c7'.1, ← c9'.1, eD t (by omega) (by omega), en, nI_clamp (by omega)]
          refine Ev.RD (W := peM T pp v1 v2 v3 v4) evF ?_
          have rd2 := RD_pe (x := w1) (y := w2) (z := w3) (u := w4) rd en hlt (by omega) (by omega) (by omega) (by omega)
          rw [← ew1, ← ew2, ← ew3, ← ew4] at rd2
          refine RD_S rd2 ?_
          unfold shAdd
          exact ((((show Ag _ S from eD).up.up).up).up).up
      · rw [if_pos g1]
        exact LH_f (RB_up (RB_up g2 (by decide)) (by decide)) (evF.FR fr)
end P11
