/-! ===== the model: what is SEEN ===== -/
section M11
variable {G : xG} {d : Nat} {b : Nat} {S T U : Nat → Nat → Int32} {h0 h : xH}
def asM (pe th hs : Nat → Int32) (p x : Int32) : Nat → Nat → Bool → Bool
  | 0, _, so => so
  | m + 1, k, so => asM pe th hs p x m (k + 1) (so && (!decide (pe k = p) || decide (b2i (hasB x (th k)) = hs k)))
theorem X12_isAsSeen {ns : Nat} (hs : T 0 37 = nI ns) (h8 : ns ≤ 8) (p x : Int32) (hd : 1 ≤ d) : VM G mX12_isAsSeen d 0 0 [.ref (b + 0), .int p, .int x] (xE (some (.int (b2i (asM (T 26) (T 27) (T 28) p x ns 0 true)))) (wH G b tbM T h0)) (wH G b tbM T h0) := by
  refine VM_start (ls := [some (.ref (b + 0)), some (.int p), some (.int x), none, none]) rfl ?_
  -- %m X12_isAsSeen
  refine V_iconst (pc := 0) (v := 1) dX12_isAsSeen_0 (by decide) ?_
  refine V_istore_n (pc := 1) (i := 3) dX12_isAsSeen_1 rfl (by decide) rfl ?_
  refine V_iconst (pc := 2) (v := 0) dX12_isAsSeen_2 (by decide) ?_
  refine V_istore (pc := 3) dX12_isAsSeen_3 (by decide) rfl ?_
  have loop : ∀ (m i : Nat) (so : Bool), m + i = ns → V G mX12_isAsSeen d 0 0 (xE (some (.int (b2i (asM (T 26) (T 27) (T 28) p x m i so)))) (wH G b tbM T h0)) 5 [some (.ref (b + 0)), some (.int p), some (.int x), some (.int (b2i so)), some (.int (nI i))] [] (wH G b tbM T h0) := by
    intro m
    induction m with
    | zero =>
      intro i so hm
      refine V_iload (pc := 5) dX12_isAsSeen_5 rfl ?_
      refine V_aload_n (pc := 7) (i := 0) dX12_isAsSeen_7 rfl rfl ?_
      refine VW_getI (pc := 8) dX12_isAsSeen_8 fX12_310 (by first | assumption | rfl) rfl ?_
      refine V_icmp_ge (pc := 11) 62 dX12_isAsSeen_11 rfl (fun c11 => ?_) (fun c11 => ?_)
      · refine V_iload_n (pc := 62) (i := 3) dX12_isAsSeen_62 rfl rfl ?_
        exact VE_zret (pc := 63) dX12_isAsSeen_63 rfl (b2i_01 _) rfl rfl
      · exact absurd (by rw [hs, show i = ns by omega]; exact nI_le (by omega) (by omega)) c11
    | succ m ih =>
      intro i so hm
      rw [asM]
      refine V_iload (pc := 5) dX12_isAsSeen_5 rfl ?_
      refine V_aload_n (pc := 7) (i := 0) dX12_isAsSeen_7 rfl rfl ?_
      refine VW_getI (pc := 8) dX12_isAsSeen_8 fX12_310 (by first | assumption | rfl) rfl ?_
      refine V_icmp_ge (pc := 11) 62 dX12_isAsSeen_11 rfl (fun c11 => ?_) (fun c11 => ?_)
      · exact absurd c11 (by rw [hs]; exact nI_ge (by omega) (by omega))
      · refine V_iload_n (pc := 14) (i := 3) dX12_isAsSeen_14 rfl rfl ?_
        refine V_if_eq (pc := 15) 54 dX12_isAsSeen_15 rfl (fun c15 => ?_) (fun c15 => ?_)
        · rw [b2i_0.mp c15, Bool.false_and]
          refine V_iconst (pc := 54) (v := 0) dX12_isAsSeen_54 (by decide) ?_
          refine V_istore_n (pc := 55) (i := 3) dX12_isAsSeen_55 rfl (by decide) rfl ?_
          refine V_iinc (pc := 56) dX12_isAsSeen_56 (by decide) rfl rfl (iincN (n := 1) (by decide)) ?_
          refine V_goto (pc := 59) 5 dX12_isAsSeen_59 rfl ?_
          exact ih (i + 1) false (by omega)
        · rw [b2i_n0.mp c15, Bool.true_and]
          refine V_aload_n (pc := 18) (i := 0) dX12_isAsSeen_18 rfl rfl ?_
          refine VW_getR (pc := 19) dX12_isAsSeen_19 fX12_108 (by first | assumption | rfl) rfl ?_
          refine V_iload (pc := 22) dX12_isAsSeen_22 rfl ?_
          refine VW_ialdN (pc := 24) dX12_isAsSeen_24 (by first | assumption | rfl) rfl (by omega) (by first | decide | omega) ?_
          refine V_iload_n (pc := 25) (i := 1) dX12_isAsSeen_25 rfl rfl ?_
          refine V_icmp_ne (pc := 26) 50 dX12_isAsSeen_26 rfl (fun c26 => ?_) (fun c26 => ?_)
          · rw [decide_eq_false c26]
            refine V_iconst (pc := 50) (v := 1) dX12_isAsSeen_50 (by decide) ?_
            refine V_goto (pc := 51) 55 dX12_isAsSeen_51 rfl ?_
            refine V_istore_n (pc := 55) (i := 3) dX12_isAsSeen_55 rfl (by decide) rfl ?_
            refine V_iinc (pc := 56) dX12_isAsSeen_56 (by decide) rfl rfl (iincN (n := 1) (by decide)) ?_
            refine V_goto (pc := 59) 5 dX12_isAsSeen_59 rfl ?_
            exact ih (i + 1) true (by omega)
          · rw [decide_eq_true c26]
            refine V_iload_n (pc := 29) (i := 2) dX12_isAsSeen_29 rfl rfl ?_
            refine V_aload_n (pc := 30) (i := 0) dX12_isAsSeen_30 rfl rfl ?_
            refine VW_getR (pc := 31) dX12_isAsSeen_31 fX12_111 (by first | assumption | rfl) rfl ?_
            refine V_iload (pc := 34) dX12_isAsSeen_34 rfl ?_
            refine VW_ialdN (pc := 36) dX12_isAsSeen_36 (by first | assumption | rfl) rfl (by omega) (by first | decide | omega) ?_
            refine V_S2i (pc := 37) dX12_isAsSeen_37 cX12_263 (X12_isOf (d := 0) _ _) (Nat.le_of_ble_eq_true rfl) (by omega) (Nat.le_of_ble_eq_true rfl) ?_
            refine V_aload_n (pc := 40) (i := 0) dX12_isAsSeen_40 rfl rfl ?_
            refine VW_getR (pc := 41) dX12_isAsSeen_41 fX12_114 (by first | assumption | rfl) rfl ?_
            refine V_iload (pc := 44) dX12_isAsSeen_44 rfl ?_
            refine VW_zald (pc := 46) dX12_isAsSeen_46 (by first | assumption | rfl) (vp_in_nI (by omega) (by decide)) ?_
            rw [nI_clamp (by omega)]
            refine V_icmp_ne (pc := 47) 54 dX12_isAsSeen_47 rfl (fun c47 => ?_) (fun c47 => ?_)
            · rw [decide_eq_false c47]
              refine V_iconst (pc := 54) (v := 0) dX12_isAsSeen_54 (by decide) ?_
              refine V_istore_n (pc := 55) (i := 3) dX12_isAsSeen_55 rfl (by decide) rfl ?_
              refine V_iinc (pc := 56) dX12_isAsSeen_56 (by decide) rfl rfl (iincN (n := 1) (by decide)) ?_
              refine V_goto (pc := 59) 5 dX12_isAsSeen_59 rfl ?_
              exact ih (i + 1) false (by omega)
            · rw [decide_eq_true c47]
              refine V_iconst (pc := 50) (v := 1) dX12_isAsSeen_50 (by decide) ?_
              refine V_goto (pc := 51) 55 dX12_isAsSeen_51 rfl ?_
              refine V_istore_n (pc := 55) (i := 3) dX12_isAsSeen_55 rfl (by decide) rfl ?_
              refine V_iinc (pc := 56) dX12_isAsSeen_56 (by decide) rfl rfl (iincN (n := 1) (by decide)) ?_
              refine V_goto (pc := 59) 5 dX12_isAsSeen_59 rfl ?_
              exact ih (i + 1) true (by omega)
  exact loop ns 0 true rfl
def mTel (T : Nat → Nat → Int32) (n ns q : Nat) : Int32 := colB (fun i => asM (T 26) (T 27) (T 28) (nI q) (mSup T n q i) ns 0 true) 10 0 0
theorem X12_telling {n pp r bb q ns : Nat} (ci : MI T n pp r bb) (hs : T 0 37 = nI ns) (h8s : ns ≤ 8) (hq : q < 8) (hd : 5 ≤ d) : VM G mX12_telling d 0 0 [.ref (b + 0), .int (nI q)] (xE (some (.int (mTel T n ns q))) (wH G b tbM T h0)) (wH G b tbM T h0) := by
  obtain ⟨hn, h12, hg, hp, h8, -⟩ := id ci
  refine VM_start (ls := [some (.ref (b + 0)), some (.int (nI q)), none, none]) rfl ?_
  unfold mTel
  -- %m X12_telling
  refine V_iconst (pc := 0) (v := 0) dX12_telling_0 (by decide) ?_
  refine V_istore_n (pc := 1) (i := 2) dX12_telling_1 rfl (by decide) rfl ?_
  refine V_iconst (pc := 2) (v := 0) dX12_telling_2 (by decide) ?_
  refine V_istore_n (pc := 3) (i := 3) dX12_telling_3 rfl (by decide) rfl ?_
  have loop : ∀ (m i : Nat) (x : Int32), m + i = 10 → V G mX12_telling d 0 0 (xE (some (.int (colB (fun i => asM (T 26) (T 27) (T 28) (nI q) (mSup T n q i) ns 0 true) m i x))) (wH G b tbM T h0)) 4 [some (.ref (b + 0)), some (.int (nI q)), some (.int x), some (.int (nI i))] [] (wH G b tbM T h0) := by
    intro m
    induction m with
    | zero =>
      intro i x hm
      refine V_iload_n (pc := 4) (i := 3) dX12_telling_4 rfl rfl ?_
      refine V_bipush (pc := 5) (v := 10) dX12_telling_5 (by decide) ?_
      refine V_icmp_ge (pc := 7) 48 dX12_telling_7 rfl (fun c7 => ?_) (fun c7 => ?_)
      · refine V_iload_n (pc := 48) (i := 2) dX12_telling_48 rfl rfl ?_
        exact VE_iret (pc := 49) dX12_telling_49 rfl rfl rfl
      · exact absurd (by rw [show i = 10 by omega]; decide) c7
    | succ m ih =>
      intro i x hm
      rw [colB]
      refine V_iload_n (pc := 4) (i := 3) dX12_telling_4 rfl rfl ?_
      refine V_bipush (pc := 5) (v := 10) dX12_telling_5 (by decide) ?_
      refine V_icmp_ge (pc := 7) 48 dX12_telling_7 rfl (fun c7 => ?_) (fun c7 => ?_)
      · exact absurd c7 (nI_ge (b := 10) (by omega) (by decide))
      · refine V_iload_n (pc := 10) (i := 2) dX12_telling_10 rfl rfl ?_
        refine V_aload_n (pc := 11) (i := 0) dX12_telling_11 rfl rfl ?_
        refine V_iload_n (pc := 12) (i := 1) dX12_telling_12 rfl rfl ?_
        refine V_aload_n (pc := 13) (i := 0) dX12_telling_13 rfl rfl ?_
        refine V_aload_n (pc := 14) (i := 0) dX12_telling_14 rfl rfl ?_
        refine VW_getR (pc := 15) dX12_telling_15 fX12_80 (by first | assumption | rfl) rfl ?_
        refine V_iload_n (pc := 18) (i := 1) dX12_telling_18 rfl rfl ?_
        refine VW_ialdN (pc := 19) dX12_telling_19 (by first | assumption | rfl) rfl (by omega) (by first | decide | omega) ?_
        refine V_iconst (pc := 20) (v := 1) dX12_telling_20 (by decide) ?_
        refine V_iload_n (pc := 21) (i := 3) dX12_telling_21 rfl rfl ?_
        refine V_ishl (pc := 22) dX12_telling_22 ?_
        refine V_ior (pc := 23) dX12_telling_23 ?_
        refine V_V1i (pc := 24) dX12_telling_24 cX12_323 (by first | assumption | rfl) (X12_come (d := 3) hn h12 hg _ (by omega)) (Nat.le_of_ble_eq_true rfl) (by omega) (Nat.le_of_ble_eq_true rfl) ?_
        refine V_V2i (pc := 27) dX12_telling_27 cX12_423 (by first | assumption | rfl) (X12_isAsSeen (d := 1) hs h8s _ _ (by omega)) (Nat.le_of_ble_eq_true rfl) (by omega) (Nat.le_of_ble_eq_true rfl) ?_
        refine V_if_eq (pc := 30) 39 dX12_telling_30 rfl (fun c30 => ?_) (fun c30 => ?_)
        · rw [if_neg (by show ¬ asM (T 26) (T 27) (T 28) (nI q) (mSup T n q i) ns 0 true = true; unfold mSup; rw [b2i_0.mp c30]; decide)]
          refine V_iconst (pc := 39) (v := 0) dX12_telling_39 (by decide) ?_
          refine V_ior (pc := 40) dX12_telling_40 ?_
          (first | rw [Int32.or_zero] | skip)
          refine V_istore_n (pc := 41) (i := 2) dX12_telling_41 rfl (by decide) rfl ?_
          refine V_iinc (pc := 42) dX12_telling_42 (by decide) rfl rfl (iincN (n := 1) (by decide)) ?_
          refine V_goto (pc := 45) 4 dX12_telling_45 rfl ?_
          exact ih (i + 1) _ (by omega)
        · rw [if_pos (show asM (T 26) (T 27) (T 28) (nI q) (mSup T n q i) ns 0 true = true from b2i_n0.mp c30)]
          refine V_iconst (pc := 33) (v := 1) dX12_telling_33 (by decide) ?_
          refine V_iload_n (pc := 34) (i := 3) dX12_telling_34 rfl rfl ?_
          refine V_ishl (pc := 35) dX12_telling_35 ?_
          refine V_goto (pc := 36) 40 dX12_telling_36 rfl ?_
          refine V_ior (pc := 40) dX12_telling_40 ?_
          (first | rw [Int32.or_zero] | skip)
          refine V_istore_n (pc := 41) (i := 2) dX12_telling_41 rfl (by decide) rfl ?_
          refine V_iinc (pc := 42) dX12_telling_42 (by decide) rfl rfl (iincN (n := 1) (by decide)) ?_
          refine V_goto (pc := 45) 4 dX12_telling_45 rfl ?_
          exact ih (i + 1) _ (by omega)
  exact loop 10 0 0 rfl
theorem X12_tells {n pp r bb q ns : Nat} (ci : MI S n pp r bb) (hs : S 0 37 = nI ns) (h8s : ns ≤ 8) (hq : q < pp) (hb : gB G ≤ b) (hd : 6 ≤ d) : VM G mX12_tells d 0 0 [.ref (b + 0), .int (nI q)] (xE (some (.int (mTel (up2 S 0 2 0) n ns q))) (wH G b tbM (up2 S 0 2 0) h0)) (wH G b tbM S h0) := by
  have ciT := ci.cz (j := 2) (x := 0) (by decide)
  have hsT : up2 S 0 2 0 0 37 = nI ns := by rw [up2_col (by decide)]; exact hs
  have h8 : pp ≤ 8 := ci.2.2.2.2.1
  refine VM_start (ls := [some (.ref (b + 0)), some (.int (nI q))]) rfl ?_
  -- %m X12_tells
  have h1i : inR (nI q) 0 (nI pp - 1) = true := inR_pp (by omega) (by omega)
  refine V_aload_n (pc := 0) (i := 0) dX12_tells_0 rfl rfl ?_
  refine V_iconst (pc := 1) (v := 0) dX12_tells_1 (by decide) ?_
  refine VW_putI (pc := 2) dX12_tells_2 fX12_139 ftX12 (fpI rfl rfl (tyX12_ok 2 (by decide))) (by first | assumption | rfl) rfl (by assumption) ?_
  generalize up2 S 0 2 0 = T at ciT hsT ⊢
  obtain ⟨hn, h12, hg, hp, -⟩ := id ciT
  refine V_aload_n (pc := 5) (i := 0) dX12_tells_5 rfl rfl ?_
  refine V_iload_n (pc := 6) (i := 1) dX12_tells_6 rfl rfl ?_
  refine V_V1i (pc := 7) dX12_tells_7 cX12_384 (by first | assumption | rfl) (X12_isPerson (d := 1) _ (by omega)) (Nat.le_of_ble_eq_true rfl) (by omega) (Nat.le_of_ble_eq_true rfl) ?_
  rw [hp]
  refine V_if_eq (pc := 10) 21 dX12_tells_10 rfl (fun c10 => ?_) (fun c10 => ?_)
  · rw [h1i] at c10; exact absurd c10 (by decide)
  · refine V_aload_n (pc := 13) (i := 0) dX12_tells_13 rfl rfl ?_
    refine V_iload_n (pc := 14) (i := 1) dX12_tells_14 rfl rfl ?_
    refine V_V1i (pc := 15) dX12_tells_15 cX12_426 (by first | assumption | rfl) (X12_telling (d := 5) ciT hsT h8s (by omega) (by omega)) (Nat.le_of_ble_eq_true rfl) (by omega) (Nat.le_of_ble_eq_true rfl) ?_
    refine V_goto (pc := 18) 26 dX12_tells_18 rfl ?_
    exact VE_iret (pc := 26) dX12_tells_26 rfl rfl rfl
theorem colB_low {P : Nat → Bool} : ∀ (m i : Nat) (x : Int32), i + m ≤ 31 → lowB x i → lowB (colB P m i x) (i + m) := by
  intro m
  induction m with
  | zero => intro i x _ h; exact h
  | succ m ih =>
    intro i x hi h
    rw [colB, show i + (m + 1) = i + 1 + m by omega]
    refine ih (i + 1) _ (by omega) (fun j h1 h2 => ?_)
    split
    · rw [b_or, h j (by omega) h2, b_shl1 (by omega) h2]
      simp; omega
    · exact h j (by omega) h2
theorem X12_look {n pp r bb q v ns : Nat} (ci : MI S n pp r bb) (hs : S 0 37 = nI ns) (h8s : ns ≤ 8) (hq : q < pp) (hv : v ≤ 1) {x9 : Int32} (hx9 : mTel (up2 S 0 2 0) n ns q = x9) (hb : gB G ≤ b) (hd : 6 ≤ d) : VM G mX12_look d 0 0 [.ref (b + 0), .int (nI q), .int (nI v)] (xE (some (.int (if x9 = 0 then (if nI v = 0 then -1 else mxI 0 (-1)) else if nI v = 0 then (lokF (lokW (mSup (up2 S 0 2 0) n q) x9) 10 0 (-1) (-1)).1 else mxI 0 (lokF (lokW (mSup (up2 S 0 2 0) n q) x9) 10 0 (-1) (-1)).2))) (wH G b tbM (up2 S 0 2 0) h0)) (wH G b tbM S h0) := by
  have ciT := ci.cz (j := 2) (x := 0) (by decide)
  have hsT : up2 S 0 2 0 0 37 = nI ns := by rw [up2_col (by decide)]; exact hs
  have h8 : pp ≤ 8 := ci.2.2.2.2.1
  refine VM_start (ls := [some (.ref (b + 0)), some (.int (nI q)), some (.int (nI v)), none, none, none, none, none, none]) rfl ?_
  -- %m X12_look
  have h1i : inR (nI q) 0 (nI pp - 1) = true := inR_pp (by omega) (by omega)
  refine V_aload_n (pc := 0) (i := 0) dX12_look_0 rfl rfl ?_
  refine V_iconst (pc := 1) (v := 0) dX12_look_1 (by decide) ?_
  refine VW_putI (pc := 2) dX12_look_2 fX12_139 ftX12 (fpI rfl rfl (tyX12_ok 2 (by decide))) (by first | assumption | rfl) rfl (by assumption) ?_
  generalize up2 S 0 2 0 = T at ciT hsT hx9 ⊢
  obtain ⟨hn, h12, hg, hp, -⟩ := id ciT
  have hlow : lowB x9 10 := by rw [← hx9]; exact colB_low 10 0 0 (by decide) (lowB_0 0)
  obtain ⟨c9, hc9, e9⟩ := lowB_in hlow
  refine V_aload_n (pc := 5) (i := 0) dX12_look_5 rfl rfl ?_
  refine V_iload_n (pc := 6) (i := 1) dX12_look_6 rfl rfl ?_
  refine V_V1i (pc := 7) dX12_look_7 cX12_384 (by first | assumption | rfl) (X12_isPerson (d := 1) _ (by omega)) (Nat.le_of_ble_eq_true rfl) (by omega) (Nat.le_of_ble_eq_true rfl) ?_
  rw [hp]
  refine V_if_eq (pc := 10) 22 dX12_look_10 rfl (fun c10 => ?_) (fun c10 => ?_)
  · rw [h1i] at c10; exact absurd c10 (by decide)
  · refine V_iload_n (pc := 13) (i := 2) dX12_look_13 rfl rfl ?_
    refine V_if_lt (pc := 14) 22 dX12_look_14 rfl (fun c14 => ?_) (fun c14 => ?_)
    · exact absurd c14 (nI_pos (by omega))
    · refine V_iload_n (pc := 17) (i := 2) dX12_look_17 rfl rfl ?_
      refine V_iconst (pc := 18) (v := 1) dX12_look_18 (by decide) ?_
      refine V_icmp_le (pc := 19) 28 dX12_look_19 rfl (fun c19 => ?_) (fun c19 => ?_)
      · refine V_aload_n (pc := 28) (i := 0) dX12_look_28 rfl rfl ?_
        refine V_iload_n (pc := 29) (i := 1) dX12_look_29 rfl rfl ?_
        refine V_V1i (pc := 30) dX12_look_30 cX12_426 (by first | assumption | rfl) (X12_telling (d := 5) ciT hsT h8s (by omega) (by omega)) (Nat.le_of_ble_eq_true rfl) (by omega) (Nat.le_of_ble_eq_true rfl) ?_
        rw [hx9]
        refine V_istore_n (pc := 33) (i := 3) dX12_look_33 rfl (by decide) rfl ?_
        refine V_iconst (pc := 34) (v := -1) dX12_look_34 (by decide) ?_
        refine V_istore (pc := 35) dX12_look_35 (by decide) rfl ?_
        refine V_iconst (pc := 37) (v := -1) dX12_look_37 (by decide) ?_
        refine V_istore (pc := 38) dX12_look_38 (by decide) rfl ?_
        refine V_iconst (pc := 40) (v := 0) dX12_look_40 (by decide) ?_
        refine V_istore (pc := 41) dX12_look_41 (by decide) rfl ?_
        have fin : ∀ (z y : Int32) (z6 z7 z8 : Option Value), V G mX12_look d 0 0 (xE (some (.int (if nI v = 0 then z else mxI 0 y))) (wH G b tbM T h0)) 153 [some (.ref (b + 0)), some (.int (nI q)), some (.int (nI v)), some (.int x9), some (.int z), some (.int y), z6, z7, z8] [] (wH G b tbM T h0) := by
          intro z y z6 z7 z8
          refine V_iload_n (pc := 153) (i := 2) dX12_look_153 rfl rfl ?_
          refine V_if_ne (pc := 154) 162 dX12_look_154 rfl (fun c154 => ?_) (fun c154 => ?_)
          · rw [if_neg c154]
            refine V_iconst (pc := 162) (v := 0) dX12_look_162 (by decide) ?_
            refine V_iload (pc := 163) dX12_look_163 rfl ?_
            refine V_max (pc := 165) dX12_look_165 cX12_354 w_maxS w_mathI w_maxC (by omega) (Nat.le_of_ble_eq_true rfl) ?_
            exact VE_iret (pc := 168) dX12_look_168 rfl rfl rfl
          · rw [if_pos c154]
            refine V_iload (pc := 157) dX12_look_157 rfl ?_
            refine V_goto (pc := 159) 168 dX12_look_159 rfl ?_
            exact VE_iret (pc := 168) dX12_look_168 rfl rfl rfl
        have inner : ∀ (m i t : Nat) (x z y : Int32) (Q : xR → xH → Prop), m + i = 10 → V G mX12_look d 0 0 Q 115 [some (.ref (b + 0)), some (.int (nI q)), some (.int (nI v)), some (.int x9), some (.int z), some (.int y), some (.int (nI t)), some (.int (cntP (fun i => hasB x9 (nI i) && hasB (mSup T n q i) (nI t)) m i x)), some (.int (nI 10))] [] (wH G b tbM T h0) → V G mX12_look d 0 0 Q 60 [some (.ref (b + 0)), some (.int (nI q)), some (.int (nI v)), some (.int x9), some (.int z), some (.int y), some (.int (nI t)), some (.int x), some (.int (nI i))] [] (wH G b tbM T h0) := by
          intro m
          induction m with
          | zero =>
            intro i t x z y Q hm kk
            refine V_iload (pc := 60) dX12_look_60 rfl ?_
            refine V_bipush (pc := 62) (v := 10) dX12_look_62 (by decide) ?_
            rw [show i = 10 by omega]
            refine V_icmp_ge (pc := 64) 115 dX12_look_64 rfl (fun c64 => ?_) (fun c64 => ?_)
            · exact kk
            · exact absurd (by decide) c64
          | succ m ih =>
            intro i t x z y Q hm kk
            rw [cntP] at kk
            refine V_iload (pc := 60) dX12_look_60 rfl ?_
            refine V_bipush (pc := 62) (v := 10) dX12_look_62 (by decide) ?_
            refine V_icmp_ge (pc := 64) 115 dX12_look_64 rfl (fun c64 => ?_) (fun c64 => ?_)
            · exact absurd c64 (nI_ge (b := 10) (by omega) (by decide))
            · refine V_iload (pc := 67) dX12_look_67 rfl ?_
              refine V_iload_n (pc := 69) (i := 3) dX12_look_69 rfl rfl ?_
              refine V_iload (pc := 70) dX12_look_70 rfl ?_
              refine V_S2i (pc := 72) dX12_look_72 cX12_263 (X12_isOf (d := 0) _ _) (Nat.le_of_ble_eq_true rfl) (by omega) (Nat.le_of_ble_eq_true rfl) ?_
              refine V_if_eq (pc := 75) 105 dX12_look_75 rfl (fun c75 => ?_) (fun c75 => ?_)
              · rw [if_neg (by rw [b2i_0.mp c75, Bool.false_and]; decide)] at kk
                refine V_iconst (pc := 105) (v := 0) dX12_look_105 (by decide) ?_
                refine V_iadd (pc := 106) dX12_look_106 ?_
                rw [Int32.add_zero]
                refine V_istore (pc := 107) dX12_look_107 (by decide) rfl ?_
                refine V_iinc (pc := 109) dX12_look_109 (by decide) rfl rfl (iincN (n := 1) (by decide)) ?_
                refine V_goto (pc := 112) 60 dX12_look_112 rfl ?_
                exact ih (i + 1) t _ _ _ Q (by omega) kk
              · refine V_aload_n (pc := 78) (i := 0) dX12_look_78 rfl rfl ?_
                refine V_aload_n (pc := 79) (i := 0) dX12_look_79 rfl rfl ?_
                refine VW_getR (pc := 80) dX12_look_80 fX12_80 (by first | assumption | rfl) rfl ?_
                refine V_iload_n (pc := 83) (i := 1) dX12_look_83 rfl rfl ?_
                refine VW_ialdN (pc := 84) dX12_look_84 (by first | assumption | rfl) rfl (by omega) (by first | decide | omega) ?_
                refine V_iconst (pc := 85) (v := 1) dX12_look_85 (by decide) ?_
                refine V_iload (pc := 86) dX12_look_86 rfl ?_
                refine V_ishl (pc := 88) dX12_look_88 ?_
                refine V_ior (pc := 89) dX12_look_89 ?_
                refine V_V1i (pc := 90) dX12_look_90 cX12_323 (by first | assumption | rfl) (X12_come (d := 3) hn h12 hg _ (by omega)) (Nat.le_of_ble_eq_true rfl) (by omega) (Nat.le_of_ble_eq_true rfl) ?_
                refine V_iload (pc := 93) dX12_look_93 rfl ?_
                refine V_S2i (pc := 95) dX12_look_95 cX12_263 (X12_isOf (d := 0) _ _) (Nat.le_of_ble_eq_true rfl) (by omega) (Nat.le_of_ble_eq_true rfl) ?_
                refine V_if_eq (pc := 98) 105 dX12_look_98 rfl (fun c98 => ?_) (fun c98 => ?_)
                · rw [if_neg (by unfold mSup; rw [b2i_0.mp c98, Bool.and_false]; decide)] at kk
                  refine V_iconst (pc := 105) (v := 0) dX12_look_105 (by decide) ?_
                  refine V_iadd (pc := 106) dX12_look_106 ?_
                  rw [Int32.add_zero]
                  refine V_istore (pc := 107) dX12_look_107 (by decide) rfl ?_
                  refine V_iinc (pc := 109) dX12_look_109 (by decide) rfl rfl (iincN (n := 1) (by decide)) ?_
                  refine V_goto (pc := 112) 60 dX12_look_112 rfl ?_
                  exact ih (i + 1) t _ _ _ Q (by omega) kk
                · rw [if_pos (by unfold mSup; rw [b2i_n0.mp c75, b2i_n0.mp c98]; rfl)] at kk
                  refine V_iconst (pc := 101) (v := 1) dX12_look_101 (by decide) ?_
                  refine V_goto (pc := 102) 106 dX12_look_102 rfl ?_
                  refine V_iadd (pc := 106) dX12_look_106 ?_
                  refine V_istore (pc := 107) dX12_look_107 (by decide) rfl ?_
                  refine V_iinc (pc := 109) dX12_look_109 (by decide) rfl rfl (iincN (n := 1) (by decide)) ?_
                  refine V_goto (pc := 112) 60 dX12_look_112 rfl ?_
                  exact ih (i + 1) t _ _ _ Q (by omega) kk
        have loop : ∀ (m i : Nat) (z y : Int32), m + i = 10 → ¬ x9 = 0 → V G mX12_look d 0 0 (xE (some (.int (if nI v = 0 then (lokF (lokW (mSup T n q) x9) m i z y).1 else mxI 0 (lokF (lokW (mSup T n q) x9) m i z y).2))) (wH G b tbM T h0)) 43 [some (.ref (b + 0)), some (.int (nI q)), some (.int (nI v)), some (.int x9), some (.int z), some (.int y), some (.int (nI i)), none, none] [] (wH G b tbM T h0) := by
          intro m
          induction m with
          | zero =>
            intro i z y hm hx
            refine V_iload (pc := 43) dX12_look_43 rfl ?_
            refine V_bipush (pc := 45) (v := 10) dX12_look_45 (by decide) ?_
            refine V_icmp_ge (pc := 47) 153 dX12_look_47 rfl (fun c47 => ?_) (fun c47 => ?_)
            · exact fin _ _ _ _ _
            · exact absurd (by rw [show i = 10 by omega]; decide) c47
          | succ m ih =>
            intro i z y hm hx
            rw [lokF]
            refine V_iload (pc := 43) dX12_look_43 rfl ?_
            refine V_bipush (pc := 45) (v := 10) dX12_look_45 (by decide) ?_
            refine V_icmp_ge (pc := 47) 153 dX12_look_47 rfl (fun c47 => ?_) (fun c47 => ?_)
            · exact absurd c47 (nI_ge (b := 10) (by omega) (by decide))
            · refine V_iload_n (pc := 50) (i := 3) dX12_look_50 rfl rfl ?_
              refine V_if_eq (pc := 51) 153 dX12_look_51 rfl (fun c51 => ?_) (fun c51 => ?_)
              · exact absurd c51 hx
              · refine V_iconst (pc := 54) (v := 0) dX12_look_54 (by decide) ?_
                refine V_istore (pc := 55) dX12_look_55 (by decide) rfl ?_
                refine V_iconst (pc := 57) (v := 0) dX12_look_57 (by decide) ?_
                refine V_istore (pc := 58) dX12_look_58 (by decide) rfl ?_
                refine inner 10 0 i 0 z y _ rfl ?_
                refine V_iload (pc := 115) dX12_look_115 rfl ?_
                refine V_iload_n (pc := 117) (i := 3) dX12_look_117 rfl rfl ?_
                refine V_S1i (pc := 118) dX12_look_118 cX12_357 (X12_bitsE (d := 0) e9 (by omega)) (Nat.le_of_ble_eq_true rfl) (by omega) (Nat.le_of_ble_eq_true rfl) ?_
                refine V_iload (pc := 121) dX12_look_121 rfl ?_
                refine V_isub (pc := 123) dX12_look_123 ?_
                refine V_min (pc := 124) dX12_look_124 cX12_180 w_minS w_mathI w_minC (by omega) (Nat.le_of_ble_eq_true rfl) ?_
                refine V_istore (pc := 127) dX12_look_127 (by decide) rfl ?_
                refine V_iload (pc := 129) dX12_look_129 rfl ?_
                refine V_iload (pc := 131) dX12_look_131 rfl ?_
                refine V_icmp_gt (pc := 133) 139 dX12_look_133 rfl (fun c133 => ?_) (fun c133 => ?_)
                · rw [if_pos (show y < lokW (mSup T n q) x9 i from c133)]
                  refine V_iload (pc := 139) dX12_look_139 rfl ?_
                  refine V_istore (pc := 141) dX12_look_141 (by decide) rfl ?_
                  refine V_iload (pc := 143) dX12_look_143 rfl ?_
                  refine V_istore (pc := 145) dX12_look_145 (by decide) rfl ?_
                  refine V_iinc (pc := 147) dX12_look_147 (by decide) rfl rfl (iincN (n := 1) (by decide)) ?_
                  refine V_goto (pc := 150) 43 dX12_look_150 rfl ?_
                  exact V_forget 7 (V_forget 8 (ih (i + 1) _ _ (by omega) hx))
                · rw [if_neg (show ¬ y < lokW (mSup T n q) x9 i from c133)]
                  refine V_goto (pc := 136) 147 dX12_look_136 rfl ?_
                  refine V_iinc (pc := 147) dX12_look_147 (by decide) rfl rfl (iincN (n := 1) (by decide)) ?_
                  refine V_goto (pc := 150) 43 dX12_look_150 rfl ?_
                  exact V_forget 7 (V_forget 8 (ih (i + 1) _ _ (by omega) hx))
        by_cases hx : x9 = 0
        · rw [if_pos hx]
          refine V_iload (pc := 43) dX12_look_43 rfl ?_
          refine V_bipush (pc := 45) (v := 10) dX12_look_45 (by decide) ?_
          refine V_icmp_ge (pc := 47) 153 dX12_look_47 rfl (fun c47 => ?_) (fun c47 => ?_)
          · exact fin _ _ _ _ _
          · refine V_iload_n (pc := 50) (i := 3) dX12_look_50 rfl rfl ?_
            refine V_if_eq (pc := 51) 153 dX12_look_51 rfl (fun c51 => ?_) (fun c51 => ?_)
            · exact fin _ _ _ _ _
            · exact absurd hx c51
        · rw [if_neg hx]
          exact loop 10 0 _ _ rfl hx
      · exact absurd (nI_le (b := 1) (by omega) (by decide)) c19
def seeS (T : Nat → Nat → Int32) (ns : Nat) (p t v : Int32) : Nat → Nat → Int32 := up2 (up2 (up2 (up2 T 26 ns p) 27 ns t) 28 ns v) 0 37 (nI (ns + 1))
theorem X12_see {n pp r bb q t ns : Nat} (ci : MI S n pp r bb) (hs : S 0 37 = nI ns) (hq : q < pp) (ht : t < 10) {v : Int32} (hv : v = 0 ∨ v = 1) (hns : ns < 8) (hb : gB G ≤ b) (hd : 6 ≤ d) : VM G mX12_see d 0 0 [.ref (b + 0), .int (nI q), .int (nI t), .int v] (xE (some (.int (nI (ns + 1)))) (wH G b tbM (seeS (up2 S 0 2 0) ns (nI q) (nI t) v) h0)) (wH G b tbM S h0) := by
  have ciT := ci.cz (j := 2) (x := 0) (by decide)
  have hsT : up2 S 0 2 0 0 37 = nI ns := by rw [up2_col (by decide)]; exact hs
  have h8 : pp ≤ 8 := ci.2.2.2.2.1
  have hv1 : vp_nar .boolean v = v := by rcases hv with q | q <;> subst q <;> decide
  refine VM_start (ls := [some (.ref (b + 0)), some (.int (nI q)), some (.int (nI t)), some (.int v)]) rfl ?_
  -- %m X12_see
  have h1i : inR (nI q) 0 (nI pp - 1) = true := inR_pp (by omega) (by omega)
  have h2i : inR (nI t) 0 9 = true := inR_ok (l := 0) (m := 9) (by omega) (by omega) (by decide)
  refine V_aload_n (pc := 0) (i := 0) dX12_see_0 rfl rfl ?_
  refine V_iconst (pc := 1) (v := 0) dX12_see_1 (by decide) ?_
  refine VW_putI (pc := 2) dX12_see_2 fX12_139 ftX12 (fpI rfl rfl (tyX12_ok 2 (by decide))) (by first | assumption | rfl) rfl (by assumption) ?_
  generalize up2 S 0 2 0 = T at ciT hsT ⊢
  obtain ⟨hn, h12, hg, hp, -⟩ := id ciT
  refine V_aload_n (pc := 5) (i := 0) dX12_see_5 rfl rfl ?_
  refine V_iload_n (pc := 6) (i := 1) dX12_see_6 rfl rfl ?_
  refine V_V1i (pc := 7) dX12_see_7 cX12_384 (by first | assumption | rfl) (X12_isPerson (d := 1) _ (by omega)) (Nat.le_of_ble_eq_true rfl) (by omega) (Nat.le_of_ble_eq_true rfl) ?_
  rw [hp]
  refine V_if_eq (pc := 10) 20 dX12_see_10 rfl (fun c10 => ?_) (fun c10 => ?_)
  · rw [h1i] at c10; exact absurd c10 (by decide)
  · refine V_iload_n (pc := 13) (i := 2) dX12_see_13 rfl rfl ?_
    refine V_S1i (pc := 14) dX12_see_14 cX12_378 (X12_isThing (d := 1) _ (by omega)) (Nat.le_of_ble_eq_true rfl) (by omega) (Nat.le_of_ble_eq_true rfl) ?_
    refine V_if_ne (pc := 17) 26 dX12_see_17 rfl (fun c17 => ?_) (fun c17 => ?_)
    · refine V_aload_n (pc := 26) (i := 0) dX12_see_26 rfl rfl ?_
      refine VW_getI (pc := 27) dX12_see_27 fX12_310 (by first | assumption | rfl) rfl ?_
      refine V_bipush (pc := 30) (v := 8) dX12_see_30 (by decide) ?_
      refine V_icmp_ne (pc := 32) 41 dX12_see_32 rfl (fun c32 => ?_) (fun c32 => ?_)
      · refine V_aload_n (pc := 41) (i := 0) dX12_see_41 rfl rfl ?_
        refine VW_getR (pc := 42) dX12_see_42 fX12_108 (by first | assumption | rfl) rfl ?_
        refine V_aload_n (pc := 45) (i := 0) dX12_see_45 rfl rfl ?_
        refine VW_getI (pc := 46) dX12_see_46 fX12_310 (by first | assumption | rfl) rfl ?_
        rw [hsT]
        refine V_iload_n (pc := 49) (i := 1) dX12_see_49 rfl rfl ?_
        refine VW_iastN (pc := 50) dX12_see_50 (by first | assumption | rfl) (by assumption) (j := ns) rfl (by omega) (by first | decide | omega) ?_
        refine V_aload_n (pc := 51) (i := 0) dX12_see_51 rfl rfl ?_
        refine VW_getR (pc := 52) dX12_see_52 fX12_111 (by first | assumption | rfl) rfl ?_
        refine V_aload_n (pc := 55) (i := 0) dX12_see_55 rfl rfl ?_
        refine VW_getI (pc := 56) dX12_see_56 fX12_310 (by first | assumption | rfl) rfl ?_
        rw [up2_row (by decide), hsT]
        refine V_iload_n (pc := 59) (i := 2) dX12_see_59 rfl rfl ?_
        refine VW_iastN (pc := 60) dX12_see_60 (by first | assumption | rfl) (by assumption) (j := ns) rfl (by omega) (by first | decide | omega) ?_
        refine V_aload_n (pc := 61) (i := 0) dX12_see_61 rfl rfl ?_
        refine VW_getR (pc := 62) dX12_see_62 fX12_114 (by first | assumption | rfl) rfl ?_
        refine V_aload_n (pc := 65) (i := 0) dX12_see_65 rfl rfl ?_
        refine VW_getI (pc := 66) dX12_see_66 fX12_310 (by first | assumption | rfl) rfl ?_
        rw [up2_row (by decide), up2_row (by decide), hsT]
        refine V_iload_n (pc := 69) (i := 3) dX12_see_69 rfl rfl ?_
        refine VW_zast (pc := 70) dX12_see_70 (by first | assumption | rfl) (by assumption) (vp_in_nI (by omega) (by decide)) ?_
        rw [nI_clamp (by omega), hv1]
        refine V_aload_n (pc := 71) (i := 0) dX12_see_71 rfl rfl ?_
        refine V_dup (pc := 72) dX12_see_72 rfl ?_
        refine VW_getI (pc := 73) dX12_see_73 fX12_310 (by first | assumption | rfl) rfl ?_
        rw [up2_row (by decide), up2_row (by decide), up2_row (by decide), hsT]
        refine V_iconst (pc := 76) (v := 1) dX12_see_76 (by decide) ?_
        refine V_iadd (pc := 77) dX12_see_77 ?_
        rw [nI_1]
        refine VW_putI (pc := 78) dX12_see_78 fX12_310 ftX12 (fpI rfl rfl (tyX12_ok 37 (by decide))) (by first | assumption | rfl) rfl (by assumption) ?_
        refine V_aload_n (pc := 81) (i := 0) dX12_see_81 rfl rfl ?_
        refine VW_getI (pc := 82) dX12_see_82 fX12_310 (by first | assumption | rfl) rfl ?_
        rw [up2_same]
        exact VE_iret (pc := 85) dX12_see_85 rfl rfl rfl
      · exact absurd ((nI_eq (b := 8) (by omega) (by decide)).mp (hsT.symm.trans c32)) (by omega)
    · rw [h2i] at c17; exact absurd c17 (by decide)
theorem X12_see_no {n pp r bb q t : Nat} (ci : MI S n pp r bb) (hs : S 0 37 = 8) (hq : q < pp) (ht : t < 10) {v : Int32} (hb : gB G ≤ b) (hd : 6 ≤ d) : VM G mX12_see d 0 0 [.ref (b + 0), .int (nI q), .int (nI t), .int v] (xE (some (.int (-1))) (wH G b tbM (up2 (up2 S 0 2 0) 14 2 (up2 S 0 2 0 14 2 + 1)) h0)) (wH G b tbM S h0) := by
  have ciT := ci.cz (j := 2) (x := 0) (by decide)
  have hsT : up2 S 0 2 0 0 37 = 8 := by rw [up2_col (by decide)]; exact hs
  have h8 : pp ≤ 8 := ci.2.2.2.2.1
  refine VM_start (ls := [some (.ref (b + 0)), some (.int (nI q)), some (.int (nI t)), some (.int v)]) rfl ?_
  -- %m X12_see
  have h1i : inR (nI q) 0 (nI pp - 1) = true := inR_pp (by omega) (by omega)
  have h2i : inR (nI t) 0 9 = true := inR_ok (l := 0) (m := 9) (by omega) (by omega) (by decide)
  refine V_aload_n (pc := 0) (i := 0) dX12_see_0 rfl rfl ?_
  refine V_iconst (pc := 1) (v := 0) dX12_see_1 (by decide) ?_
  refine VW_putI (pc := 2) dX12_see_2 fX12_139 ftX12 (fpI rfl rfl (tyX12_ok 2 (by decide))) (by first | assumption | rfl) rfl (by assumption) ?_
  generalize up2 S 0 2 0 = T at ciT hsT ⊢
  obtain ⟨hn, h12, hg, hp, -⟩ := id ciT
  refine V_aload_n (pc := 5) (i := 0) dX12_see_5 rfl rfl ?_
  refine V_iload_n (pc := 6) (i := 1) dX12_see_6 rfl rfl ?_
  refine V_V1i (pc := 7) dX12_see_7 cX12_384 (by first | assumption | rfl) (X12_isPerson (d := 1) _ (by omega)) (Nat.le_of_ble_eq_true rfl) (by omega) (Nat.le_of_ble_eq_true rfl) ?_
  rw [hp]
  refine V_if_eq (pc := 10) 20 dX12_see_10 rfl (fun c10 => ?_) (fun c10 => ?_)
  · rw [h1i] at c10; exact absurd c10 (by decide)
  · refine V_iload_n (pc := 13) (i := 2) dX12_see_13 rfl rfl ?_
    refine V_S1i (pc := 14) dX12_see_14 cX12_378 (X12_isThing (d := 1) _ (by omega)) (Nat.le_of_ble_eq_true rfl) (by omega) (Nat.le_of_ble_eq_true rfl) ?_
    refine V_if_ne (pc := 17) 26 dX12_see_17 rfl (fun c17 => ?_) (fun c17 => ?_)
    · refine V_aload_n (pc := 26) (i := 0) dX12_see_26 rfl rfl ?_
      refine VW_getI (pc := 27) dX12_see_27 fX12_310 (by first | assumption | rfl) rfl ?_
      refine V_bipush (pc := 30) (v := 8) dX12_see_30 (by decide) ?_
      refine V_icmp_ne (pc := 32) 41 dX12_see_32 rfl (fun c32 => ?_) (fun c32 => ?_)
      · exact absurd hsT c32
      · refine V_aload_n (pc := 35) (i := 0) dX12_see_35 rfl rfl ?_
        refine V_iconst (pc := 36) (v := 2) dX12_see_36 (by decide) ?_
        refine V_V1i (pc := 37) dX12_see_37 cX12_393 (by first | assumption | rfl) (X12_refuse (k := 2) (d := 0) (by decide) hb) (Nat.le_of_ble_eq_true rfl) (by omega) (Nat.le_of_ble_eq_true rfl) ?_
        exact VE_iret (pc := 40) dX12_see_40 rfl rfl rfl
    · rw [h2i] at c17; exact absurd c17 (by decide)
theorem X12_forget (hb : gB G ≤ b) : VM G mX12_forget d 0 0 [.ref (b + 0)] (xE none (wH G b tbM (up2 (up2 S 0 2 0) 0 37 0) h0)) (wH G b tbM S h0) := by
  refine VM_start (ls := [some (.ref (b + 0))]) rfl ?_
  -- %m X12_forget
  refine V_aload_n (pc := 0) (i := 0) dX12_forget_0 rfl rfl ?_
  refine V_iconst (pc := 1) (v := 0) dX12_forget_1 (by decide) ?_
  refine VW_putI (pc := 2) dX12_forget_2 fX12_139 ftX12 (fpI rfl rfl (tyX12_ok 2 (by decide))) (by first | assumption | rfl) rfl (by assumption) ?_
  refine V_aload_n (pc := 5) (i := 0) dX12_forget_5 rfl rfl ?_
  refine V_iconst (pc := 6) (v := 0) dX12_forget_6 (by decide) ?_
  refine VW_putI (pc := 7) dX12_forget_7 fX12_310 ftX12 (fpI rfl rfl (tyX12_ok 37 (by decide))) (by first | assumption | rfl) rfl (by assumption) ?_
  exact VE_vret (pc := 10) dX12_forget_10 rfl rfl
end M11
