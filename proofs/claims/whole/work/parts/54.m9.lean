/-! ===== the model: THINGS and IFS asked ===== -/
section M9
variable {G : xG} {d : Nat} {b : Nat} {S T U : Nat → Nat → Int32} {h0 h : xH}
theorem X12_comes {n pp r bb a : Nat} (ci : MI S n pp r bb) (ha : a ≤ 1023) (hb : gB G ≤ b) (hd : 5 ≤ d) : VM G mX12_comes d 0 0 [.ref (b + 0), .int (nI a)] (xE (some (.int (allF (mF (up2 S 0 2 0) n (up2 S 0 2 0 0 34)) (up2 S 0 2 0 12) 10 (nI a)))) (wH G b tbM (up2 S 0 2 0) h0)) (wH G b tbM S h0) := by
  have ciT := ci.cz (j := 2) (x := 0) (by decide)
  refine VM_start (ls := [some (.ref (b + 0)), some (.int (nI a))]) rfl ?_
  -- %m X12_comes
  have h1i : inR (nI a) 0 1023 = true := inR_ok (l := 0) (m := 1023) (by omega) (by omega) (by decide)
  refine V_aload_n (pc := 0) (i := 0) dX12_comes_0 rfl rfl ?_
  refine V_iconst (pc := 1) (v := 0) dX12_comes_1 (by decide) ?_
  refine VW_putI (pc := 2) dX12_comes_2 fX12_139 ftX12 (fpI rfl rfl (tyX12_ok 2 (by decide))) (by first | assumption | rfl) rfl (by assumption) ?_
  generalize up2 S 0 2 0 = T at ciT ⊢
  obtain ⟨hn, h12, hg, hp, h8, -⟩ := id ciT
  refine V_iload_n (pc := 5) (i := 1) dX12_comes_5 rfl rfl ?_
  refine V_S1i (pc := 6) dX12_comes_6 cX12_412 (X12_isSet (d := 1) _ (by omega)) (Nat.le_of_ble_eq_true rfl) (by omega) (Nat.le_of_ble_eq_true rfl) ?_
  refine V_if_eq (pc := 9) 20 dX12_comes_9 rfl (fun c9 => ?_) (fun c9 => ?_)
  · rw [h1i] at c9; exact absurd c9 (by decide)
  · refine V_aload_n (pc := 12) (i := 0) dX12_comes_12 rfl rfl ?_
    refine V_iload_n (pc := 13) (i := 1) dX12_comes_13 rfl rfl ?_
    refine V_V1i (pc := 14) dX12_comes_14 cX12_323 (by first | assumption | rfl) (X12_come (d := 3) hn h12 hg _ (by omega)) (Nat.le_of_ble_eq_true rfl) (by omega) (Nat.le_of_ble_eq_true rfl) ?_
    refine V_goto (pc := 17) 25 dX12_comes_17 rfl ?_
    exact VE_iret (pc := 25) dX12_comes_25 rfl rfl rfl
theorem X12_worth {q : Nat} (hq : q < 10) (hb : gB G ≤ b) (hd : 5 ≤ d) : VM G mX12_worth d 0 0 [.ref (b + 0), .int (nI q)] (xE (some (.int (up2 S 0 2 0 4 q))) (wH G b tbM (up2 S 0 2 0) h0)) (wH G b tbM S h0) := by
  refine VM_start (ls := [some (.ref (b + 0)), some (.int (nI q))]) rfl ?_
  -- %m X12_worth
  have h1i : inR (nI q) 0 9 = true := inR_ok (l := 0) (m := 9) (by omega) (by omega) (by decide)
  refine V_aload_n (pc := 0) (i := 0) dX12_worth_0 rfl rfl ?_
  refine V_iconst (pc := 1) (v := 0) dX12_worth_1 (by decide) ?_
  refine VW_putI (pc := 2) dX12_worth_2 fX12_139 ftX12 (fpI rfl rfl (tyX12_ok 2 (by decide))) (by first | assumption | rfl) rfl (by assumption) ?_
  generalize up2 S 0 2 0 = T
  refine V_iload_n (pc := 5) (i := 1) dX12_worth_5 rfl rfl ?_
  refine V_S1i (pc := 6) dX12_worth_6 cX12_378 (X12_isThing (d := 1) _ (by omega)) (Nat.le_of_ble_eq_true rfl) (by omega) (Nat.le_of_ble_eq_true rfl) ?_
  refine V_if_eq (pc := 9) 21 dX12_worth_9 rfl (fun c9 => ?_) (fun c9 => ?_)
  · rw [h1i] at c9; exact absurd c9 (by decide)
  · refine V_aload_n (pc := 12) (i := 0) dX12_worth_12 rfl rfl ?_
    refine VW_getR (pc := 13) dX12_worth_13 fX12_40 (by first | assumption | rfl) rfl ?_
    refine V_iload_n (pc := 16) (i := 1) dX12_worth_16 rfl rfl ?_
    refine VW_ialdN (pc := 17) dX12_worth_17 (by first | assumption | rfl) rfl (by omega) (by first | decide | omega) ?_
    refine V_goto (pc := 18) 26 dX12_worth_18 rfl ?_
    exact VE_iret (pc := 26) dX12_worth_26 rfl rfl rfl
theorem X12_fault (hb : gB G ≤ b) : VM G mX12_fault d 0 0 [.ref (b + 0)] (xE (some (.int (up2 S 0 2 0 0 25))) (wH G b tbM (up2 S 0 2 0) h0)) (wH G b tbM S h0) := by
  refine VM_start (ls := [some (.ref (b + 0))]) rfl ?_
  -- %m X12_fault
  refine V_aload_n (pc := 0) (i := 0) dX12_fault_0 rfl rfl ?_
  refine V_iconst (pc := 1) (v := 0) dX12_fault_1 (by decide) ?_
  refine VW_putI (pc := 2) dX12_fault_2 fX12_139 ftX12 (fpI rfl rfl (tyX12_ok 2 (by decide))) (by first | assumption | rfl) rfl (by assumption) ?_
  refine V_aload_n (pc := 5) (i := 0) dX12_fault_5 rfl rfl ?_
  refine VW_getI (pc := 6) dX12_fault_6 fX12_76 (by first | assumption | rfl) rfl ?_
  exact VE_iret (pc := 9) dX12_fault_9 rfl rfl rfl
theorem X12_needed {n pp r bb a t : Nat} (ci : MI S n pp r bb) (ha : a ≤ 1023) (ht : t < 10) (hb : gB G ≤ b) (hd : 5 ≤ d) : VM G mX12_needed d 0 0 [.ref (b + 0), .int (nI a), .int (nI t)] (xE (some (.int (if hasB (allF (mF (up2 S 0 2 0) n (up2 S 0 2 0 0 34)) (up2 S 0 2 0 12) 10 (nI a)) (nI t) then colB (fun i => !hasB (up2 S 0 2 0 0 34) (nI i) && !decide (allF (mF (up2 S 0 2 0) n (up2 S 0 2 0 0 34 ||| 1 <<< (nI i &&& 31))) (up2 S 0 2 0 12) 10 (nI a) &&& 1 <<< (nI t &&& 31) = allF (mF (up2 S 0 2 0) n (up2 S 0 2 0 0 34)) (up2 S 0 2 0 12) 10 (nI a) &&& 1 <<< (nI t &&& 31))) n 0 0 else 0))) (wH G b tbM (up2 S 0 2 0) h0)) (wH G b tbM S h0) := by
  have ciT := ci.cz (j := 2) (x := 0) (by decide)
  refine VM_start (ls := [some (.ref (b + 0)), some (.int (nI a)), some (.int (nI t))]) rfl ?_
  -- %m X12_needed
  have h2i : inR (nI t) 0 9 = true := inR_ok (l := 0) (m := 9) (by omega) (by omega) (by decide)
  have h1i : inR (nI a) 0 1023 = true := inR_ok (l := 0) (m := 1023) (by omega) (by omega) (by decide)
  refine V_aload_n (pc := 0) (i := 0) dX12_needed_0 rfl rfl ?_
  refine V_iconst (pc := 1) (v := 0) dX12_needed_1 (by decide) ?_
  refine VW_putI (pc := 2) dX12_needed_2 fX12_139 ftX12 (fpI rfl rfl (tyX12_ok 2 (by decide))) (by first | assumption | rfl) rfl (by assumption) ?_
  generalize up2 S 0 2 0 = T at ciT ⊢
  obtain ⟨hn, h12, hg, hp, h8, -⟩ := id ciT
  refine V_iload_n (pc := 5) (i := 2) dX12_needed_5 rfl rfl ?_
  refine V_S1i (pc := 6) dX12_needed_6 cX12_378 (X12_isThing (d := 1) _ (by omega)) (Nat.le_of_ble_eq_true rfl) (by omega) (Nat.le_of_ble_eq_true rfl) ?_
  refine V_if_ne (pc := 9) 18 dX12_needed_9 rfl (fun c9 => ?_) (fun c9 => ?_)
  · refine V_iload_n (pc := 18) (i := 1) dX12_needed_18 rfl rfl ?_
    refine V_S1i (pc := 19) dX12_needed_19 cX12_412 (X12_isSet (d := 1) _ (by omega)) (Nat.le_of_ble_eq_true rfl) (by omega) (Nat.le_of_ble_eq_true rfl) ?_
    refine V_if_ne (pc := 22) 31 dX12_needed_22 rfl (fun c22 => ?_) (fun c22 => ?_)
    · refine V_aload_n (pc := 31) (i := 0) dX12_needed_31 rfl rfl ?_
      refine V_iload_n (pc := 32) (i := 1) dX12_needed_32 rfl rfl ?_
      refine V_V1i (pc := 33) dX12_needed_33 cX12_323 (by first | assumption | rfl) (X12_come (d := 3) hn h12 hg _ (by omega)) (Nat.le_of_ble_eq_true rfl) (by omega) (Nat.le_of_ble_eq_true rfl) ?_
      refine V_iload_n (pc := 36) (i := 2) dX12_needed_36 rfl rfl ?_
      refine V_S2i (pc := 37) dX12_needed_37 cX12_263 (X12_isOf (d := 0) _ _) (Nat.le_of_ble_eq_true rfl) (by omega) (Nat.le_of_ble_eq_true rfl) ?_
      refine V_if_eq (pc := 40) 54 dX12_needed_40 rfl (fun c40 => ?_) (fun c40 => ?_)
      · rw [if_neg (by rw [b2i_0.mp c40]; decide)]
        refine V_iconst (pc := 54) (v := 0) dX12_needed_54 (by decide) ?_
        exact VE_iret (pc := 55) dX12_needed_55 rfl rfl rfl
      · rw [if_pos (b2i_n0.mp c40)]
        refine V_aload_n (pc := 43) (i := 0) dX12_needed_43 rfl rfl ?_
        refine V_iload_n (pc := 44) (i := 1) dX12_needed_44 rfl rfl ?_
        refine V_iconst (pc := 45) (v := 1) dX12_needed_45 (by decide) ?_
        refine V_iload_n (pc := 46) (i := 2) dX12_needed_46 rfl rfl ?_
        refine V_ishl (pc := 47) dX12_needed_47 ?_
        refine V_V2i (pc := 48) dX12_needed_48 cX12_415 (by first | assumption | rfl) (X12_parting (d := 4) hn h12 hg _ _ hb (by omega)) (Nat.le_of_ble_eq_true rfl) (by omega) (Nat.le_of_ble_eq_true rfl) ?_
        refine V_goto (pc := 51) 55 dX12_needed_51 rfl ?_
        exact VE_iret (pc := 55) dX12_needed_55 rfl rfl rfl
    · rw [h1i] at c22; exact absurd c22 (by decide)
  · rw [h2i] at c9; exact absurd c9 (by decide)
def bstM (sk P : Nat → Bool) : Nat → Nat → Int32 → Int32
  | 0, _, z => z
  | m + 1, i, z => if sk i = true ∨ (¬ z = -1 ∧ bcI z ≤ bcI (nI i)) then bstM sk P m (i + 1) z else if P i then bstM sk P m (i + 1) (nI i) else bstM sk P m (i + 1) z
theorem X12_fewest {n pp r bb a t : Nat} (ci : MI S n pp r bb) (ha : a ≤ 1023) (ht : t < 10) (hb : gB G ≤ b) (hd : 5 ≤ d) : VM G mX12_fewest d 0 0 [.ref (b + 0), .int (nI a), .int (nI t)] (xE (some (.int (bstM (fun i => !decide (nI i &&& nI a = 0) || hasB (nI i) (nI t)) (fun i => hasB (allF (mF (up2 S 0 2 0) n (up2 S 0 2 0 0 34)) (up2 S 0 2 0 12) 10 (nI a ||| nI i)) (nI t)) 1024 0 (-1)))) (wH G b tbM (up2 S 0 2 0) h0)) (wH G b tbM S h0) := by
  have ciT := ci.cz (j := 2) (x := 0) (by decide)
  refine VM_start (ls := [some (.ref (b + 0)), some (.int (nI a)), some (.int (nI t)), none, none]) rfl ?_
  -- %m X12_fewest
  have h2i : inR (nI t) 0 9 = true := inR_ok (l := 0) (m := 9) (by omega) (by omega) (by decide)
  have h1i : inR (nI a) 0 1023 = true := inR_ok (l := 0) (m := 1023) (by omega) (by omega) (by decide)
  refine V_aload_n (pc := 0) (i := 0) dX12_fewest_0 rfl rfl ?_
  refine V_iconst (pc := 1) (v := 0) dX12_fewest_1 (by decide) ?_
  refine VW_putI (pc := 2) dX12_fewest_2 fX12_139 ftX12 (fpI rfl rfl (tyX12_ok 2 (by decide))) (by first | assumption | rfl) rfl (by assumption) ?_
  generalize up2 S 0 2 0 = T at ciT ⊢
  obtain ⟨hn, h12, hg, hp, h8, -⟩ := id ciT
  refine V_iload_n (pc := 5) (i := 2) dX12_fewest_5 rfl rfl ?_
  refine V_S1i (pc := 6) dX12_fewest_6 cX12_378 (X12_isThing (d := 1) _ (by omega)) (Nat.le_of_ble_eq_true rfl) (by omega) (Nat.le_of_ble_eq_true rfl) ?_
  refine V_if_ne (pc := 9) 18 dX12_fewest_9 rfl (fun c9 => ?_) (fun c9 => ?_)
  · refine V_iload_n (pc := 18) (i := 1) dX12_fewest_18 rfl rfl ?_
    refine V_S1i (pc := 19) dX12_fewest_19 cX12_412 (X12_isSet (d := 1) _ (by omega)) (Nat.le_of_ble_eq_true rfl) (by omega) (Nat.le_of_ble_eq_true rfl) ?_
    refine V_if_ne (pc := 22) 31 dX12_fewest_22 rfl (fun c22 => ?_) (fun c22 => ?_)
    · refine V_iconst (pc := 31) (v := -1) dX12_fewest_31 (by decide) ?_
      refine V_istore_n (pc := 32) (i := 3) dX12_fewest_32 rfl (by decide) rfl ?_
      refine V_iconst (pc := 33) (v := 0) dX12_fewest_33 (by decide) ?_
      refine V_istore (pc := 34) dX12_fewest_34 (by decide) rfl ?_
      have loop : ∀ (m i : Nat) (z : Int32), m + i = 1024 → (z = -1 ∨ ∃ c, c < 1024 ∧ z = nI c) → V G mX12_fewest d 0 0 (xE (some (.int (bstM (fun i => !decide (nI i &&& nI a = 0) || hasB (nI i) (nI t)) (fun i => hasB (allF (mF T n (T 0 34)) (T 12) 10 (nI a ||| nI i)) (nI t)) m i z))) (wH G b tbM T h0)) 36 [some (.ref (b + 0)), some (.int (nI a)), some (.int (nI t)), some (.int z), some (.int (nI i))] [] (wH G b tbM T h0) := by
        intro m
        induction m with
        | zero =>
          intro i z hm hz
          refine V_iload (pc := 36) dX12_fewest_36 rfl ?_
          refine V_sipush (pc := 38) (v := 1023) dX12_fewest_38 (by decide) ?_
          refine V_icmp_gt (pc := 41) 104 dX12_fewest_41 rfl (fun c41 => ?_) (fun c41 => ?_)
          · refine V_iload_n (pc := 104) (i := 3) dX12_fewest_104 rfl rfl ?_
            exact VE_iret (pc := 105) dX12_fewest_105 rfl rfl rfl
          · exact absurd (by rw [show i = 1024 by omega]; decide) c41
        | succ m ih =>
          intro i z hm hz
          rw [bstM]
          have hi : ∃ c, c < 1024 ∧ nI i = nI c := ⟨i, by omega, rfl⟩
          refine V_iload (pc := 36) dX12_fewest_36 rfl ?_
          refine V_sipush (pc := 38) (v := 1023) dX12_fewest_38 (by decide) ?_
          refine V_icmp_gt (pc := 41) 104 dX12_fewest_41 rfl (fun c41 => ?_) (fun c41 => ?_)
          · exact absurd c41 (nI_nlt (a := 1023) (by omega) (by decide))
          · refine V_iload (pc := 44) dX12_fewest_44 rfl ?_
            refine V_iload_n (pc := 46) (i := 1) dX12_fewest_46 rfl rfl ?_
            refine V_iand (pc := 47) dX12_fewest_47 ?_
            refine V_if_ne (pc := 48) 98 dX12_fewest_48 rfl (fun c48 => ?_) (fun c48 => ?_)
            · rw [if_pos (Or.inl (by simp [c48]))]
              refine V_iinc (pc := 98) dX12_fewest_98 (by decide) rfl rfl (iincN (n := 1) (by decide)) ?_
              refine V_goto (pc := 101) 36 dX12_fewest_101 rfl ?_
              exact ih (i + 1) _ (by omega) hz
            · refine V_iload (pc := 51) dX12_fewest_51 rfl ?_
              refine V_iload_n (pc := 53) (i := 2) dX12_fewest_53 rfl rfl ?_
              refine V_S2i (pc := 54) dX12_fewest_54 cX12_263 (X12_isOf (d := 0) _ _) (Nat.le_of_ble_eq_true rfl) (by omega) (Nat.le_of_ble_eq_true rfl) ?_
              refine V_if_ne (pc := 57) 98 dX12_fewest_57 rfl (fun c57 => ?_) (fun c57 => ?_)
              · rw [if_pos (Or.inl (by rw [b2i_n0.mp c57, Bool.or_true]))]
                refine V_iinc (pc := 98) dX12_fewest_98 (by decide) rfl rfl (iincN (n := 1) (by decide)) ?_
                refine V_goto (pc := 101) 36 dX12_fewest_101 rfl ?_
                exact ih (i + 1) _ (by omega) hz
              · refine V_iload_n (pc := 60) (i := 3) dX12_fewest_60 rfl rfl ?_
                refine V_iconst (pc := 61) (v := -1) dX12_fewest_61 (by decide) ?_
                refine V_icmp_eq (pc := 62) 80 dX12_fewest_62 rfl (fun c62 => ?_) (fun c62 => ?_)
                · rw [if_neg (fun q => by
                    rcases q with q | q
                    · rw [b2i_0.mp c57, decide_eq_true (show nI i &&& nI a = 0 from c48)] at q; exact absurd q (by decide)
                    · first | exact q.1 c62 | exact absurd c74 (Int32.not_lt.mpr q.2))]
                  refine V_aload_n (pc := 80) (i := 0) dX12_fewest_80 rfl rfl ?_
                  refine V_iload_n (pc := 81) (i := 1) dX12_fewest_81 rfl rfl ?_
                  refine V_iload (pc := 82) dX12_fewest_82 rfl ?_
                  refine V_ior (pc := 84) dX12_fewest_84 ?_
                  refine V_V1i (pc := 85) dX12_fewest_85 cX12_323 (by first | assumption | rfl) (X12_come (d := 3) hn h12 hg _ (by omega)) (Nat.le_of_ble_eq_true rfl) (by omega) (Nat.le_of_ble_eq_true rfl) ?_
                  refine V_iload_n (pc := 88) (i := 2) dX12_fewest_88 rfl rfl ?_
                  refine V_S2i (pc := 89) dX12_fewest_89 cX12_263 (X12_isOf (d := 0) _ _) (Nat.le_of_ble_eq_true rfl) (by omega) (Nat.le_of_ble_eq_true rfl) ?_
                  refine V_if_eq (pc := 92) 98 dX12_fewest_92 rfl (fun c92 => ?_) (fun c92 => ?_)
                  · rw [if_neg (by rw [b2i_0.mp c92]; decide)]
                    refine V_iinc (pc := 98) dX12_fewest_98 (by decide) rfl rfl (iincN (n := 1) (by decide)) ?_
                    refine V_goto (pc := 101) 36 dX12_fewest_101 rfl ?_
                    exact ih (i + 1) _ (by omega) hz
                  · rw [if_pos (b2i_n0.mp c92)]
                    refine V_iload (pc := 95) dX12_fewest_95 rfl ?_
                    refine V_istore_n (pc := 97) (i := 3) dX12_fewest_97 rfl (by decide) rfl ?_
                    refine V_iinc (pc := 98) dX12_fewest_98 (by decide) rfl rfl (iincN (n := 1) (by decide)) ?_
                    refine V_goto (pc := 101) 36 dX12_fewest_101 rfl ?_
                    exact ih (i + 1) _ (by omega) (Or.inr hi)
                · obtain ⟨c, hc, ec⟩ := hz.resolve_left c62
                  refine V_iload (pc := 65) dX12_fewest_65 rfl ?_
                  refine V_S1i (pc := 67) dX12_fewest_67 cX12_357 (X12_bitsOf (d := 0) (by omega)) (Nat.le_of_ble_eq_true rfl) (by omega) (Nat.le_of_ble_eq_true rfl) ?_
                  refine V_iload_n (pc := 70) (i := 3) dX12_fewest_70 rfl rfl ?_
                  refine V_S1i (pc := 71) dX12_fewest_71 cX12_357 (X12_bitsE (d := 0) ec (by omega)) (Nat.le_of_ble_eq_true rfl) (by omega) (Nat.le_of_ble_eq_true rfl) ?_
                  refine V_icmp_lt (pc := 74) 80 dX12_fewest_74 rfl (fun c74 => ?_) (fun c74 => ?_)
                  · rw [if_neg (fun q => by
                      rcases q with q | q
                      · rw [b2i_0.mp c57, decide_eq_true (show nI i &&& nI a = 0 from c48)] at q; exact absurd q (by decide)
                      · first | exact q.1 c62 | exact absurd c74 (Int32.not_lt.mpr q.2))]
                    refine V_aload_n (pc := 80) (i := 0) dX12_fewest_80 rfl rfl ?_
                    refine V_iload_n (pc := 81) (i := 1) dX12_fewest_81 rfl rfl ?_
                    refine V_iload (pc := 82) dX12_fewest_82 rfl ?_
                    refine V_ior (pc := 84) dX12_fewest_84 ?_
                    refine V_V1i (pc := 85) dX12_fewest_85 cX12_323 (by first | assumption | rfl) (X12_come (d := 3) hn h12 hg _ (by omega)) (Nat.le_of_ble_eq_true rfl) (by omega) (Nat.le_of_ble_eq_true rfl) ?_
                    refine V_iload_n (pc := 88) (i := 2) dX12_fewest_88 rfl rfl ?_
                    refine V_S2i (pc := 89) dX12_fewest_89 cX12_263 (X12_isOf (d := 0) _ _) (Nat.le_of_ble_eq_true rfl) (by omega) (Nat.le_of_ble_eq_true rfl) ?_
                    refine V_if_eq (pc := 92) 98 dX12_fewest_92 rfl (fun c92 => ?_) (fun c92 => ?_)
                    · rw [if_neg (by rw [b2i_0.mp c92]; decide)]
                      refine V_iinc (pc := 98) dX12_fewest_98 (by decide) rfl rfl (iincN (n := 1) (by decide)) ?_
                      refine V_goto (pc := 101) 36 dX12_fewest_101 rfl ?_
                      exact ih (i + 1) _ (by omega) hz
                    · rw [if_pos (b2i_n0.mp c92)]
                      refine V_iload (pc := 95) dX12_fewest_95 rfl ?_
                      refine V_istore_n (pc := 97) (i := 3) dX12_fewest_97 rfl (by decide) rfl ?_
                      refine V_iinc (pc := 98) dX12_fewest_98 (by decide) rfl rfl (iincN (n := 1) (by decide)) ?_
                      refine V_goto (pc := 101) 36 dX12_fewest_101 rfl ?_
                      exact ih (i + 1) _ (by omega) (Or.inr hi)
                  · rw [if_pos (Or.inr ⟨c62, Int32.not_lt.mp c74⟩)]
                    refine V_goto (pc := 77) 98 dX12_fewest_77 rfl ?_
                    refine V_iinc (pc := 98) dX12_fewest_98 (by decide) rfl rfl (iincN (n := 1) (by decide)) ?_
                    refine V_goto (pc := 101) 36 dX12_fewest_101 rfl ?_
                    exact ih (i + 1) _ (by omega) hz
      exact loop 1024 0 _ rfl (Or.inl rfl)
    · rw [h1i] at c22; exact absurd c22 (by decide)
  · rw [h2i] at c9; exact absurd c9 (by decide)
theorem X12_leads {n pp r bb t o : Nat} (ci : MI S n pp r bb) (ht : t < 10) (ho : o < 10) (hb : gB G ≤ b) (hd : 5 ≤ d) : VM G mX12_leads d 0 0 [.ref (b + 0), .int (nI t), .int (nI o)] (xE (some (.int (b2i (!decide (stepF (mLed (up2 S 0 2 0) n) (nI o) 10 1 (1 <<< (nI t &&& 31)) = -1))))) (wH G b tbM (up2 S 0 2 0) h0)) (wH G b tbM S h0) := by
  have ciT := ci.cz (j := 2) (x := 0) (by decide)
  refine VM_start (ls := [some (.ref (b + 0)), some (.int (nI t)), some (.int (nI o))]) rfl ?_
  -- %m X12_leads
  have h1i : inR (nI t) 0 9 = true := inR_ok (l := 0) (m := 9) (by omega) (by omega) (by decide)
  have h2i : inR (nI o) 0 9 = true := inR_ok (l := 0) (m := 9) (by omega) (by omega) (by decide)
  refine V_aload_n (pc := 0) (i := 0) dX12_leads_0 rfl rfl ?_
  refine V_iconst (pc := 1) (v := 0) dX12_leads_1 (by decide) ?_
  refine VW_putI (pc := 2) dX12_leads_2 fX12_139 ftX12 (fpI rfl rfl (tyX12_ok 2 (by decide))) (by first | assumption | rfl) rfl (by assumption) ?_
  generalize up2 S 0 2 0 = T at ciT ⊢
  obtain ⟨hn, h12, hg, hp, h8, -⟩ := id ciT
  refine V_iload_n (pc := 5) (i := 1) dX12_leads_5 rfl rfl ?_
  refine V_S1i (pc := 6) dX12_leads_6 cX12_378 (X12_isThing (d := 1) _ (by omega)) (Nat.le_of_ble_eq_true rfl) (by omega) (Nat.le_of_ble_eq_true rfl) ?_
  refine V_if_eq (pc := 9) 19 dX12_leads_9 rfl (fun c9 => ?_) (fun c9 => ?_)
  · rw [h1i] at c9; exact absurd c9 (by decide)
  · refine V_iload_n (pc := 12) (i := 2) dX12_leads_12 rfl rfl ?_
    refine V_S1i (pc := 13) dX12_leads_13 cX12_378 (X12_isThing (d := 1) _ (by omega)) (Nat.le_of_ble_eq_true rfl) (by omega) (Nat.le_of_ble_eq_true rfl) ?_
    refine V_if_ne (pc := 16) 25 dX12_leads_16 rfl (fun c16 => ?_) (fun c16 => ?_)
    · refine V_aload_n (pc := 25) (i := 0) dX12_leads_25 rfl rfl ?_
      refine V_iload_n (pc := 26) (i := 1) dX12_leads_26 rfl rfl ?_
      refine V_iload_n (pc := 27) (i := 2) dX12_leads_27 rfl rfl ?_
      refine V_V2i (pc := 28) dX12_leads_28 cX12_366 (by first | assumption | rfl) (X12_leadsIn (d := 2) hn h12 _ _ (by omega)) (Nat.le_of_ble_eq_true rfl) (by omega) (Nat.le_of_ble_eq_true rfl) ?_
      refine V_iconst (pc := 31) (v := -1) dX12_leads_31 (by decide) ?_
      refine V_icmp_eq (pc := 32) 39 dX12_leads_32 rfl (fun c32 => ?_) (fun c32 => ?_)
      · refine V_iconst (pc := 39) (v := 0) dX12_leads_39 (by decide) ?_
        exact VE_zret (pc := 40) dX12_leads_40 rfl (by first | exact Or.inl rfl | exact Or.inr rfl) (by simp [b2i, c32]) rfl
      · refine V_iconst (pc := 35) (v := 1) dX12_leads_35 (by decide) ?_
        refine V_goto (pc := 36) 40 dX12_leads_36 rfl ?_
        exact VE_zret (pc := 40) dX12_leads_40 rfl (by first | exact Or.inl rfl | exact Or.inr rfl) (by simp [b2i, c32]) rfl
    · rw [h2i] at c16; exact absurd c16 (by decide)
theorem X12_sources {n pp r bb t : Nat} (ci : MI S n pp r bb) (ht : t < 10) (hb : gB G ≤ b) (hd : 5 ≤ d) : VM G mX12_sources d 0 0 [.ref (b + 0), .int (nI t)] (xE (some (.int (colB (fun i => !decide (stepF (mLed (up2 S 0 2 0) n) (nI t) 10 1 (1 <<< (nI i &&& 31)) = -1)) 10 0 0))) (wH G b tbM (up2 S 0 2 0) h0)) (wH G b tbM S h0) := by
  have ciT := ci.cz (j := 2) (x := 0) (by decide)
  refine VM_start (ls := [some (.ref (b + 0)), some (.int (nI t)), none, none]) rfl ?_
  -- %m X12_sources
  have h1i : inR (nI t) 0 9 = true := inR_ok (l := 0) (m := 9) (by omega) (by omega) (by decide)
  refine V_aload_n (pc := 0) (i := 0) dX12_sources_0 rfl rfl ?_
  refine V_iconst (pc := 1) (v := 0) dX12_sources_1 (by decide) ?_
  refine VW_putI (pc := 2) dX12_sources_2 fX12_139 ftX12 (fpI rfl rfl (tyX12_ok 2 (by decide))) (by first | assumption | rfl) rfl (by assumption) ?_
  generalize up2 S 0 2 0 = T at ciT ⊢
  obtain ⟨hn, h12, hg, hp, h8, -⟩ := id ciT
  refine V_iload_n (pc := 5) (i := 1) dX12_sources_5 rfl rfl ?_
  refine V_S1i (pc := 6) dX12_sources_6 cX12_378 (X12_isThing (d := 1) _ (by omega)) (Nat.le_of_ble_eq_true rfl) (by omega) (Nat.le_of_ble_eq_true rfl) ?_
  refine V_if_ne (pc := 9) 18 dX12_sources_9 rfl (fun c9 => ?_) (fun c9 => ?_)
  · refine V_iconst (pc := 18) (v := 0) dX12_sources_18 (by decide) ?_
    refine V_istore_n (pc := 19) (i := 2) dX12_sources_19 rfl (by decide) rfl ?_
    refine V_iconst (pc := 20) (v := 0) dX12_sources_20 (by decide) ?_
    refine V_istore_n (pc := 21) (i := 3) dX12_sources_21 rfl (by decide) rfl ?_
    have loop : ∀ (m i : Nat) (x : Int32), m + i = 10 → V G mX12_sources d 0 0 (xE (some (.int (colB (fun i => !decide (stepF (mLed T n) (nI t) 10 1 (1 <<< (nI i &&& 31)) = -1)) m i x))) (wH G b tbM T h0)) 22 [some (.ref (b + 0)), some (.int (nI t)), some (.int x), some (.int (nI i))] [] (wH G b tbM T h0) := by
      intro m
      induction m with
      | zero =>
        intro i x hm
        refine V_iload_n (pc := 22) (i := 3) dX12_sources_22 rfl rfl ?_
        refine V_bipush (pc := 23) (v := 10) dX12_sources_23 (by decide) ?_
        refine V_icmp_ge (pc := 25) 54 dX12_sources_25 rfl (fun c25 => ?_) (fun c25 => ?_)
        · refine V_iload_n (pc := 54) (i := 2) dX12_sources_54 rfl rfl ?_
          exact VE_iret (pc := 55) dX12_sources_55 rfl rfl rfl
        · exact absurd (by rw [show i = 10 by omega]; decide) c25
      | succ m ih =>
        intro i x hm
        rw [colB]
        refine V_iload_n (pc := 22) (i := 3) dX12_sources_22 rfl rfl ?_
        refine V_bipush (pc := 23) (v := 10) dX12_sources_23 (by decide) ?_
        refine V_icmp_ge (pc := 25) 54 dX12_sources_25 rfl (fun c25 => ?_) (fun c25 => ?_)
        · exact absurd c25 (nI_ge (b := 10) (by omega) (by decide))
        · refine V_iload_n (pc := 28) (i := 2) dX12_sources_28 rfl rfl ?_
          refine V_aload_n (pc := 29) (i := 0) dX12_sources_29 rfl rfl ?_
          refine V_iload_n (pc := 30) (i := 3) dX12_sources_30 rfl rfl ?_
          refine V_iload_n (pc := 31) (i := 1) dX12_sources_31 rfl rfl ?_
          refine V_V2i (pc := 32) dX12_sources_32 cX12_366 (by first | assumption | rfl) (X12_leadsIn (d := 2) hn h12 _ _ (by omega)) (Nat.le_of_ble_eq_true rfl) (by omega) (Nat.le_of_ble_eq_true rfl) ?_
          refine V_iconst (pc := 35) (v := -1) dX12_sources_35 (by decide) ?_
          refine V_icmp_eq (pc := 36) 45 dX12_sources_36 rfl (fun c36 => ?_) (fun c36 => ?_)
          · rw [if_neg (by simp [c36])]
            refine V_iconst (pc := 45) (v := 0) dX12_sources_45 (by decide) ?_
            refine V_ior (pc := 46) dX12_sources_46 ?_
            (first | rw [Int32.or_zero] | skip)
            refine V_istore_n (pc := 47) (i := 2) dX12_sources_47 rfl (by decide) rfl ?_
            refine V_iinc (pc := 48) dX12_sources_48 (by decide) rfl rfl (iincN (n := 1) (by decide)) ?_
            refine V_goto (pc := 51) 22 dX12_sources_51 rfl ?_
            exact ih (i + 1) _ (by omega)
          · rw [if_pos (by simp [c36])]
            refine V_iconst (pc := 39) (v := 1) dX12_sources_39 (by decide) ?_
            refine V_iload_n (pc := 40) (i := 3) dX12_sources_40 rfl rfl ?_
            refine V_ishl (pc := 41) dX12_sources_41 ?_
            refine V_goto (pc := 42) 46 dX12_sources_42 rfl ?_
            refine V_ior (pc := 46) dX12_sources_46 ?_
            (first | rw [Int32.or_zero] | skip)
            refine V_istore_n (pc := 47) (i := 2) dX12_sources_47 rfl (by decide) rfl ?_
            refine V_iinc (pc := 48) dX12_sources_48 (by decide) rfl rfl (iincN (n := 1) (by decide)) ?_
            refine V_goto (pc := 51) 22 dX12_sources_51 rfl ?_
            exact ih (i + 1) _ (by omega)
    exact loop 10 0 0 rfl
  · rw [h1i] at c9; exact absurd c9 (by decide)
theorem X12_resting {n pp r bb : Nat} (ci : MI S n pp r bb) (hb : gB G ≤ b) (hd : 5 ≤ d) : VM G mX12_resting d 0 0 [.ref (b + 0)] (xE (some (.int (cntP (fun i => decide (mF (up2 S 0 2 0) n (up2 S 0 2 0 0 34) (nI i) = -1)) 1024 0 0))) (wH G b tbM (up2 S 0 2 0) h0)) (wH G b tbM S h0) := by
  have ciT := ci.cz (j := 2) (x := 0) (by decide)
  refine VM_start (ls := [some (.ref (b + 0)), none, none]) rfl ?_
  -- %m X12_resting
  refine V_aload_n (pc := 0) (i := 0) dX12_resting_0 rfl rfl ?_
  refine V_iconst (pc := 1) (v := 0) dX12_resting_1 (by decide) ?_
  refine VW_putI (pc := 2) dX12_resting_2 fX12_139 ftX12 (fpI rfl rfl (tyX12_ok 2 (by decide))) (by first | assumption | rfl) rfl (by assumption) ?_
  generalize up2 S 0 2 0 = T at ciT ⊢
  obtain ⟨hn, h12, hg, hp, h8, -⟩ := id ciT
  refine V_iconst (pc := 5) (v := 0) dX12_resting_5 (by decide) ?_
  refine V_istore_n (pc := 6) (i := 1) dX12_resting_6 rfl (by decide) rfl ?_
  refine V_iconst (pc := 7) (v := 0) dX12_resting_7 (by decide) ?_
  refine V_istore_n (pc := 8) (i := 2) dX12_resting_8 rfl (by decide) rfl ?_
  have loop : ∀ (m i : Nat) (x : Int32), m + i = 1024 → V G mX12_resting d 0 0 (xE (some (.int (cntP (fun i => decide (mF T n (T 0 34) (nI i) = -1)) m i x))) (wH G b tbM T h0)) 9 [some (.ref (b + 0)), some (.int x), some (.int (nI i))] [] (wH G b tbM T h0) := by
    intro m
    induction m with
    | zero =>
      intro i x hm
      refine V_iload_n (pc := 9) (i := 2) dX12_resting_9 rfl rfl ?_
      refine V_sipush (pc := 10) (v := 1023) dX12_resting_10 (by decide) ?_
      refine V_icmp_gt (pc := 13) 39 dX12_resting_13 rfl (fun c13 => ?_) (fun c13 => ?_)
      · refine V_iload_n (pc := 39) (i := 1) dX12_resting_39 rfl rfl ?_
        exact VE_iret (pc := 40) dX12_resting_40 rfl rfl rfl
      · exact absurd (by rw [show i = 1024 by omega]; decide) c13
    | succ m ih =>
      intro i x hm
      rw [cntP]
      refine V_iload_n (pc := 9) (i := 2) dX12_resting_9 rfl rfl ?_
      refine V_sipush (pc := 10) (v := 1023) dX12_resting_10 (by decide) ?_
      refine V_icmp_gt (pc := 13) 39 dX12_resting_13 rfl (fun c13 => ?_) (fun c13 => ?_)
      · exact absurd c13 (nI_nlt (a := 1023) (by omega) (by decide))
      · refine V_iload_n (pc := 16) (i := 1) dX12_resting_16 rfl rfl ?_
        refine V_aload_n (pc := 17) (i := 0) dX12_resting_17 rfl rfl ?_
        refine V_iload_n (pc := 18) (i := 2) dX12_resting_18 rfl rfl ?_
        refine V_V1i (pc := 19) dX12_resting_19 cX12_320 (by first | assumption | rfl) (X12_firstOf (d := 2) hn h12 _ (by omega)) (Nat.le_of_ble_eq_true rfl) (by omega) (Nat.le_of_ble_eq_true rfl) ?_
        refine V_iconst (pc := 22) (v := -1) dX12_resting_22 (by decide) ?_
        refine V_icmp_ne (pc := 23) 30 dX12_resting_23 rfl (fun c23 => ?_) (fun c23 => ?_)
        · rw [if_neg (by simp [c23])]
          refine V_iconst (pc := 30) (v := 0) dX12_resting_30 (by decide) ?_
          refine V_iadd (pc := 31) dX12_resting_31 ?_
          (first | rw [Int32.add_zero] | skip)
          refine V_istore_n (pc := 32) (i := 1) dX12_resting_32 rfl (by decide) rfl ?_
          refine V_iinc (pc := 33) dX12_resting_33 (by decide) rfl rfl (iincN (n := 1) (by decide)) ?_
          refine V_goto (pc := 36) 9 dX12_resting_36 rfl ?_
          exact ih (i + 1) _ (by omega)
        · rw [if_pos (by simp [c23])]
          refine V_iconst (pc := 26) (v := 1) dX12_resting_26 (by decide) ?_
          refine V_goto (pc := 27) 31 dX12_resting_27 rfl ?_
          refine V_iadd (pc := 31) dX12_resting_31 ?_
          (first | rw [Int32.add_zero] | skip)
          refine V_istore_n (pc := 32) (i := 1) dX12_resting_32 rfl (by decide) rfl ?_
          refine V_iinc (pc := 33) dX12_resting_33 (by decide) rfl rfl (iincN (n := 1) (by decide)) ?_
          refine V_goto (pc := 36) 9 dX12_resting_36 rfl ?_
          exact ih (i + 1) _ (by omega)
  exact loop 1024 0 0 rfl
def sumM (P : Nat → Bool) : Nat → Nat → Int32 → Int32
  | 0, _, x => x
  | m + 1, i, x => sumM P m (i + 1) (x + b2i (P i))
theorem X12_sets {n pp r bb t : Nat} (ci : MI S n pp r bb) (ht : t < 10) (hb : gB G ≤ b) (hd : 5 ≤ d) : VM G mX12_sets d 0 0 [.ref (b + 0), .int (nI t)] (xE (some (.int (sumM (fun i => hasB (allF (mF (up2 S 0 2 0) n (up2 S 0 2 0 0 34)) (up2 S 0 2 0 12) 10 (nI i)) (nI t)) 1024 0 0))) (wH G b tbM (up2 S 0 2 0) h0)) (wH G b tbM S h0) := by
  have ciT := ci.cz (j := 2) (x := 0) (by decide)
  refine VM_start (ls := [some (.ref (b + 0)), some (.int (nI t)), none, none]) rfl ?_
  -- %m X12_sets
  have h1i : inR (nI t) 0 9 = true := inR_ok (l := 0) (m := 9) (by omega) (by omega) (by decide)
  refine V_aload_n (pc := 0) (i := 0) dX12_sets_0 rfl rfl ?_
  refine V_iconst (pc := 1) (v := 0) dX12_sets_1 (by decide) ?_
  refine VW_putI (pc := 2) dX12_sets_2 fX12_139 ftX12 (fpI rfl rfl (tyX12_ok 2 (by decide))) (by first | assumption | rfl) rfl (by assumption) ?_
  generalize up2 S 0 2 0 = T at ciT ⊢
  obtain ⟨hn, h12, hg, hp, h8, -⟩ := id ciT
  refine V_iload_n (pc := 5) (i := 1) dX12_sets_5 rfl rfl ?_
  refine V_S1i (pc := 6) dX12_sets_6 cX12_378 (X12_isThing (d := 1) _ (by omega)) (Nat.le_of_ble_eq_true rfl) (by omega) (Nat.le_of_ble_eq_true rfl) ?_
  refine V_if_ne (pc := 9) 18 dX12_sets_9 rfl (fun c9 => ?_) (fun c9 => ?_)
  · refine V_iconst (pc := 18) (v := 0) dX12_sets_18 (by decide) ?_
    refine V_istore_n (pc := 19) (i := 2) dX12_sets_19 rfl (by decide) rfl ?_
    refine V_iconst (pc := 20) (v := 0) dX12_sets_20 (by decide) ?_
    refine V_istore_n (pc := 21) (i := 3) dX12_sets_21 rfl (by decide) rfl ?_
    have loop : ∀ (m i : Nat) (x : Int32), m + i = 1024 → V G mX12_sets d 0 0 (xE (some (.int (sumM (fun i => hasB (allF (mF T n (T 0 34)) (T 12) 10 (nI i)) (nI t)) m i x))) (wH G b tbM T h0)) 22 [some (.ref (b + 0)), some (.int (nI t)), some (.int x), some (.int (nI i))] [] (wH G b tbM T h0) := by
      intro m
      induction m with
      | zero =>
        intro i x hm
        refine V_iload_n (pc := 22) (i := 3) dX12_sets_22 rfl rfl ?_
        refine V_sipush (pc := 23) (v := 1023) dX12_sets_23 (by decide) ?_
        refine V_icmp_gt (pc := 26) 47 dX12_sets_26 rfl (fun c26 => ?_) (fun c26 => ?_)
        · refine V_iload_n (pc := 47) (i := 2) dX12_sets_47 rfl rfl ?_
          exact VE_iret (pc := 48) dX12_sets_48 rfl rfl rfl
        · exact absurd (by rw [show i = 1024 by omega]; decide) c26
      | succ m ih =>
        intro i x hm
        rw [sumM]
        refine V_iload_n (pc := 22) (i := 3) dX12_sets_22 rfl rfl ?_
        refine V_sipush (pc := 23) (v := 1023) dX12_sets_23 (by decide) ?_
        refine V_icmp_gt (pc := 26) 47 dX12_sets_26 rfl (fun c26 => ?_) (fun c26 => ?_)
        · exact absurd c26 (nI_nlt (a := 1023) (by omega) (by decide))
        · refine V_iload_n (pc := 29) (i := 2) dX12_sets_29 rfl rfl ?_
          refine V_aload_n (pc := 30) (i := 0) dX12_sets_30 rfl rfl ?_
          refine V_iload_n (pc := 31) (i := 3) dX12_sets_31 rfl rfl ?_
          refine V_V1i (pc := 32) dX12_sets_32 cX12_323 (by first | assumption | rfl) (X12_come (d := 3) hn h12 hg _ (by omega)) (Nat.le_of_ble_eq_true rfl) (by omega) (Nat.le_of_ble_eq_true rfl) ?_
          refine V_iload_n (pc := 35) (i := 1) dX12_sets_35 rfl rfl ?_
          refine V_ishr (pc := 36) dX12_sets_36 ?_
          refine V_iconst (pc := 37) (v := 1) dX12_sets_37 (by decide) ?_
          refine V_iand (pc := 38) dX12_sets_38 ?_
          rw [shr1]
          refine V_iadd (pc := 39) dX12_sets_39 ?_
          refine V_istore_n (pc := 40) (i := 2) dX12_sets_40 rfl (by decide) rfl ?_
          refine V_iinc (pc := 41) dX12_sets_41 (by decide) rfl rfl (iincN (n := 1) (by decide)) ?_
          refine V_goto (pc := 44) 22 dX12_sets_44 rfl ?_
          exact ih (i + 1) _ (by omega)
    exact loop 1024 0 0 rfl
  · rw [h1i] at c9; exact absurd c9 (by decide)
theorem X12_toDeny {n pp r bb a t : Nat} (ci : MI S n pp r bb) (ha : a ≤ 1023) (ht : t < 10) (hb : gB G ≤ b) (hd : 5 ≤ d) : VM G mX12_toDeny d 0 0 [.ref (b + 0), .int (nI a), .int (nI t)] (xE (some (.int (if hasB (nI a) (nI t) then -1 else bstM (fun i => !decide (nI i &&& up2 S 0 2 0 0 34 = 0)) (fun i => !hasB (allF (mF (up2 S 0 2 0) n (up2 S 0 2 0 0 34 ||| nI i)) (up2 S 0 2 0 12) 10 (nI a)) (nI t)) (2 ^ n) 0 (-1)))) (wH G b tbM (up2 S 0 2 0) h0)) (wH G b tbM S h0) := by
  have ciT := ci.cz (j := 2) (x := 0) (by decide)
  refine VM_start (ls := [some (.ref (b + 0)), some (.int (nI a)), some (.int (nI t)), none, none, none]) rfl ?_
  -- %m X12_toDeny
  have h2i : inR (nI t) 0 9 = true := inR_ok (l := 0) (m := 9) (by omega) (by omega) (by decide)
  have h1i : inR (nI a) 0 1023 = true := inR_ok (l := 0) (m := 1023) (by omega) (by omega) (by decide)
  refine V_aload_n (pc := 0) (i := 0) dX12_toDeny_0 rfl rfl ?_
  refine V_iconst (pc := 1) (v := 0) dX12_toDeny_1 (by decide) ?_
  refine VW_putI (pc := 2) dX12_toDeny_2 fX12_139 ftX12 (fpI rfl rfl (tyX12_ok 2 (by decide))) (by first | assumption | rfl) rfl (by assumption) ?_
  generalize up2 S 0 2 0 = T at ciT ⊢
  obtain ⟨hn, h12, hg, hp, h8, -⟩ := id ciT
  refine V_iload_n (pc := 5) (i := 2) dX12_toDeny_5 rfl rfl ?_
  refine V_S1i (pc := 6) dX12_toDeny_6 cX12_378 (X12_isThing (d := 1) _ (by omega)) (Nat.le_of_ble_eq_true rfl) (by omega) (Nat.le_of_ble_eq_true rfl) ?_
  refine V_if_ne (pc := 9) 18 dX12_toDeny_9 rfl (fun c9 => ?_) (fun c9 => ?_)
  · refine V_iload_n (pc := 18) (i := 1) dX12_toDeny_18 rfl rfl ?_
    refine V_S1i (pc := 19) dX12_toDeny_19 cX12_412 (X12_isSet (d := 1) _ (by omega)) (Nat.le_of_ble_eq_true rfl) (by omega) (Nat.le_of_ble_eq_true rfl) ?_
    refine V_if_ne (pc := 22) 31 dX12_toDeny_22 rfl (fun c22 => ?_) (fun c22 => ?_)
    · refine V_aload_n (pc := 31) (i := 0) dX12_toDeny_31 rfl rfl ?_
      refine VW_getI (pc := 32) dX12_toDeny_32 fX12_304 (by first | assumption | rfl) rfl ?_
      refine V_istore_n (pc := 35) (i := 3) dX12_toDeny_35 rfl (by decide) rfl ?_
      refine V_iconst (pc := 36) (v := -1) dX12_toDeny_36 (by decide) ?_
      refine V_istore (pc := 37) dX12_toDeny_37 (by decide) rfl ?_
      refine V_iconst (pc := 39) (v := 0) dX12_toDeny_39 (by decide) ?_
      refine V_istore (pc := 40) dX12_toDeny_40 (by decide) rfl ?_
      have h2n : 2 ^ n ≤ 4096 := Nat.pow_le_pow_right (by decide) (show n ≤ 12 from h12)
      have loop : ∀ (m i : Nat) (z dn : Int32), m + i = 2 ^ n → (z = -1 ∨ ∃ c, c < 4096 ∧ z = nI c) → V G mX12_toDeny d 0 0 (xE (some (.int (if hasB (nI a) (nI t) then z else bstM (fun i => !decide (nI i &&& T 0 34 = 0)) (fun i => !hasB (allF (mF T n (T 0 34 ||| nI i)) (T 12) 10 (nI a)) (nI t)) m i z))) (wH G b tbM T h0)) 42 [some (.ref (b + 0)), some (.int (nI a)), some (.int (nI t)), some (.int (T 0 34)), some (.int z), some (.int (nI i))] [] (wH G b tbM (up2 T 0 34 dn) h0) := by
        intro m
        induction m with
        | zero =>
          intro i z dn hm hz
          refine V_iload (pc := 42) dX12_toDeny_42 rfl ?_
          refine V_iconst (pc := 44) (v := 1) dX12_toDeny_44 (by decide) ?_
          refine V_aload_n (pc := 45) (i := 0) dX12_toDeny_45 rfl rfl ?_
          refine VW_getR (pc := 46) dX12_toDeny_46 fX12_36 (by first | assumption | rfl) rfl ?_
          refine V_iconst (pc := 49) (v := 1) dX12_toDeny_49 (by decide) ?_
          refine VW_ialdN (pc := 50) dX12_toDeny_50 (by first | assumption | rfl) (j := 1) rfl (by decide) (by first | decide | omega) ?_
          rw [up2_row (by decide), hn]
          refine V_ishl (pc := 51) dX12_toDeny_51 ?_
          rw [st1 (by omega)]
          refine V_icmp_ge (pc := 52) 122 dX12_toDeny_52 rfl (fun c52 => ?_) (fun c52 => ?_)
          · refine V_aload_n (pc := 122) (i := 0) dX12_toDeny_122 rfl rfl ?_
            refine V_iload_n (pc := 123) (i := 3) dX12_toDeny_123 rfl rfl ?_
            refine VW_putI (pc := 124) dX12_toDeny_124 fX12_304 ftX12 (fpI rfl rfl (tyX12_ok 34 (by decide))) (by first | assumption | rfl) rfl (by assumption) ?_
            rw [up2_up2, up2_self]
            refine V_iload (pc := 127) dX12_toDeny_127 rfl ?_
            exact VE_iret (pc := 129) dX12_toDeny_129 rfl (by simp [bstM]) rfl
          · exact absurd (by rw [show i = 2 ^ n by omega]; exact nI_le (by omega) (by omega)) c52
        | succ m ih =>
          intro i z dn hm hz
          have hi : ∃ c, c < 4096 ∧ nI i = nI c := ⟨i, by omega, rfl⟩
          refine V_iload (pc := 42) dX12_toDeny_42 rfl ?_
          refine V_iconst (pc := 44) (v := 1) dX12_toDeny_44 (by decide) ?_
          refine V_aload_n (pc := 45) (i := 0) dX12_toDeny_45 rfl rfl ?_
          refine VW_getR (pc := 46) dX12_toDeny_46 fX12_36 (by first | assumption | rfl) rfl ?_
          refine V_iconst (pc := 49) (v := 1) dX12_toDeny_49 (by decide) ?_
          refine VW_ialdN (pc := 50) dX12_toDeny_50 (by first | assumption | rfl) (j := 1) rfl (by decide) (by first | decide | omega) ?_
          rw [up2_row (by decide), hn]
          refine V_ishl (pc := 51) dX12_toDeny_51 ?_
          rw [st1 (by omega)]
          refine V_icmp_ge (pc := 52) 122 dX12_toDeny_52 rfl (fun c52 => ?_) (fun c52 => ?_)
          · exact absurd c52 (nI_ge (by omega) (by omega))
          · refine V_iload_n (pc := 55) (i := 1) dX12_toDeny_55 rfl rfl ?_
            refine V_iload_n (pc := 56) (i := 2) dX12_toDeny_56 rfl rfl ?_
            refine V_S2i (pc := 57) dX12_toDeny_57 cX12_263 (X12_isOf (d := 0) _ _) (Nat.le_of_ble_eq_true rfl) (by omega) (Nat.le_of_ble_eq_true rfl) ?_
            refine V_if_ne (pc := 60) 122 dX12_toDeny_60 rfl (fun c60 => ?_) (fun c60 => ?_)
            · rw [if_pos (b2i_n0.mp c60)]
              refine V_aload_n (pc := 122) (i := 0) dX12_toDeny_122 rfl rfl ?_
              refine V_iload_n (pc := 123) (i := 3) dX12_toDeny_123 rfl rfl ?_
              refine VW_putI (pc := 124) dX12_toDeny_124 fX12_304 ftX12 (fpI rfl rfl (tyX12_ok 34 (by decide))) (by first | assumption | rfl) rfl (by assumption) ?_
              rw [up2_up2, up2_self]
              refine V_iload (pc := 127) dX12_toDeny_127 rfl ?_
              exact VE_iret (pc := 129) dX12_toDeny_129 rfl rfl rfl
            · have nh : ¬ hasB (nI a) (nI t) = true := by rw [b2i_0.mp c60]; decide
              have ihh := fun i z dn => ih i z dn
              rw [if_neg nh, bstM]
              simp only [if_neg nh] at ihh
              refine V_iload (pc := 63) dX12_toDeny_63 rfl ?_
              refine V_iload_n (pc := 65) (i := 3) dX12_toDeny_65 rfl rfl ?_
              refine V_iand (pc := 66) dX12_toDeny_66 ?_
              refine V_if_ne (pc := 67) 116 dX12_toDeny_67 rfl (fun c67 => ?_) (fun c67 => ?_)
              · rw [if_pos (Or.inl (by simp [c67]))]
                refine V_iinc (pc := 116) dX12_toDeny_116 (by decide) rfl rfl (iincN (n := 1) (by decide)) ?_
                refine V_goto (pc := 119) 42 dX12_toDeny_119 rfl ?_
                exact ihh (i + 1) _ _ (by omega) hz
              · refine V_iload (pc := 70) dX12_toDeny_70 rfl ?_
                refine V_iconst (pc := 72) (v := -1) dX12_toDeny_72 (by decide) ?_
                refine V_icmp_eq (pc := 73) 92 dX12_toDeny_73 rfl (fun c73 => ?_) (fun c73 => ?_)
                · rw [if_neg (fun q => by
                    rcases q with q | q
                    · rw [decide_eq_true (show nI i &&& T 0 34 = 0 from c67)] at q; exact absurd q (by decide)
                    · first | exact q.1 c73 | exact absurd c86 (Int32.not_lt.mpr q.2))]
                  refine V_aload_n (pc := 92) (i := 0) dX12_toDeny_92 rfl rfl ?_
                  refine V_iload_n (pc := 93) (i := 3) dX12_toDeny_93 rfl rfl ?_
                  refine V_iload (pc := 94) dX12_toDeny_94 rfl ?_
                  refine V_ior (pc := 96) dX12_toDeny_96 ?_
                  refine VW_putI (pc := 97) dX12_toDeny_97 fX12_304 ftX12 (fpI rfl rfl (tyX12_ok 34 (by decide))) (by first | assumption | rfl) rfl (by assumption) ?_
                  rw [up2_up2]
                  refine V_aload_n (pc := 100) (i := 0) dX12_toDeny_100 rfl rfl ?_
                  refine V_iload_n (pc := 101) (i := 1) dX12_toDeny_101 rfl rfl ?_
                  refine V_V1i (pc := 102) dX12_toDeny_102 cX12_323 (by first | assumption | rfl) (X12_comeD (d := 3) hn h12 hg _ _ (by omega)) (Nat.le_of_ble_eq_true rfl) (by omega) (Nat.le_of_ble_eq_true rfl) ?_
                  refine V_iload_n (pc := 105) (i := 2) dX12_toDeny_105 rfl rfl ?_
                  refine V_S2i (pc := 106) dX12_toDeny_106 cX12_263 (X12_isOf (d := 0) _ _) (Nat.le_of_ble_eq_true rfl) (by omega) (Nat.le_of_ble_eq_true rfl) ?_
                  refine V_if_ne (pc := 109) 116 dX12_toDeny_109 rfl (fun c109 => ?_) (fun c109 => ?_)
                  · rw [if_neg (by rw [b2i_n0.mp c109]; decide)]
                    refine V_iinc (pc := 116) dX12_toDeny_116 (by decide) rfl rfl (iincN (n := 1) (by decide)) ?_
                    refine V_goto (pc := 119) 42 dX12_toDeny_119 rfl ?_
                    exact ihh (i + 1) _ _ (by omega) hz
                  · rw [if_pos (by rw [b2i_0.mp c109]; decide)]
                    refine V_iload (pc := 112) dX12_toDeny_112 rfl ?_
                    refine V_istore (pc := 114) dX12_toDeny_114 (by decide) rfl ?_
                    refine V_iinc (pc := 116) dX12_toDeny_116 (by decide) rfl rfl (iincN (n := 1) (by decide)) ?_
                    refine V_goto (pc := 119) 42 dX12_toDeny_119 rfl ?_
                    exact ihh (i + 1) _ _ (by omega) (Or.inr hi)
                · obtain ⟨c, hc, ec⟩ := hz.resolve_left c73
                  refine V_iload (pc := 76) dX12_toDeny_76 rfl ?_
                  refine V_S1i (pc := 78) dX12_toDeny_78 cX12_357 (X12_bitsOf (d := 0) (by omega)) (Nat.le_of_ble_eq_true rfl) (by omega) (Nat.le_of_ble_eq_true rfl) ?_
                  refine V_iload (pc := 81) dX12_toDeny_81 rfl ?_
                  refine V_S1i (pc := 83) dX12_toDeny_83 cX12_357 (X12_bitsE (d := 0) ec (by omega)) (Nat.le_of_ble_eq_true rfl) (by omega) (Nat.le_of_ble_eq_true rfl) ?_
                  refine V_icmp_lt (pc := 86) 92 dX12_toDeny_86 rfl (fun c86 => ?_) (fun c86 => ?_)
                  · rw [if_neg (fun q => by
                      rcases q with q | q
                      · rw [decide_eq_true (show nI i &&& T 0 34 = 0 from c67)] at q; exact absurd q (by decide)
                      · first | exact q.1 c73 | exact absurd c86 (Int32.not_lt.mpr q.2))]
                    refine V_aload_n (pc := 92) (i := 0) dX12_toDeny_92 rfl rfl ?_
                    refine V_iload_n (pc := 93) (i := 3) dX12_toDeny_93 rfl rfl ?_
                    refine V_iload (pc := 94) dX12_toDeny_94 rfl ?_
                    refine V_ior (pc := 96) dX12_toDeny_96 ?_
                    refine VW_putI (pc := 97) dX12_toDeny_97 fX12_304 ftX12 (fpI rfl rfl (tyX12_ok 34 (by decide))) (by first | assumption | rfl) rfl (by assumption) ?_
                    rw [up2_up2]
                    refine V_aload_n (pc := 100) (i := 0) dX12_toDeny_100 rfl rfl ?_
                    refine V_iload_n (pc := 101) (i := 1) dX12_toDeny_101 rfl rfl ?_
                    refine V_V1i (pc := 102) dX12_toDeny_102 cX12_323 (by first | assumption | rfl) (X12_comeD (d := 3) hn h12 hg _ _ (by omega)) (Nat.le_of_ble_eq_true rfl) (by omega) (Nat.le_of_ble_eq_true rfl) ?_
                    refine V_iload_n (pc := 105) (i := 2) dX12_toDeny_105 rfl rfl ?_
                    refine V_S2i (pc := 106) dX12_toDeny_106 cX12_263 (X12_isOf (d := 0) _ _) (Nat.le_of_ble_eq_true rfl) (by omega) (Nat.le_of_ble_eq_true rfl) ?_
                    refine V_if_ne (pc := 109) 116 dX12_toDeny_109 rfl (fun c109 => ?_) (fun c109 => ?_)
                    · rw [if_neg (by rw [b2i_n0.mp c109]; decide)]
                      refine V_iinc (pc := 116) dX12_toDeny_116 (by decide) rfl rfl (iincN (n := 1) (by decide)) ?_
                      refine V_goto (pc := 119) 42 dX12_toDeny_119 rfl ?_
                      exact ihh (i + 1) _ _ (by omega) hz
                    · rw [if_pos (by rw [b2i_0.mp c109]; decide)]
                      refine V_iload (pc := 112) dX12_toDeny_112 rfl ?_
                      refine V_istore (pc := 114) dX12_toDeny_114 (by decide) rfl ?_
                      refine V_iinc (pc := 116) dX12_toDeny_116 (by decide) rfl rfl (iincN (n := 1) (by decide)) ?_
                      refine V_goto (pc := 119) 42 dX12_toDeny_119 rfl ?_
                      exact ihh (i + 1) _ _ (by omega) (Or.inr hi)
                  · rw [if_pos (Or.inr ⟨c73, Int32.not_lt.mp c86⟩)]
                    refine V_goto (pc := 89) 116 dX12_toDeny_89 rfl ?_
                    refine V_iinc (pc := 116) dX12_toDeny_116 (by decide) rfl rfl (iincN (n := 1) (by decide)) ?_
                    refine V_goto (pc := 119) 42 dX12_toDeny_119 rfl ?_
                    exact ihh (i + 1) _ _ (by omega) hz
      rw [show wH G b tbM T h0 = wH G b tbM (up2 T 0 34 (T 0 34)) h0 by rw [up2_self]]
      have k := loop (2 ^ n) 0 (-1) (T 0 34) (by omega) (Or.inl rfl)
      rw [up2_self] at k ⊢
      exact k
    · rw [h1i] at c22; exact absurd c22 (by decide)
  · rw [h2i] at c9; exact absurd c9 (by decide)
end M9
