/-! ===== the model: PEOPLE asked ===== -/
section M10
variable {G : xG} {d : Nat} {b : Nat} {S T U : Nat → Nat → Int32} {h0 h : xH}
theorem X12_like {n pp r bb q v : Nat} (ci : MI S n pp r bb) (hq : q < pp) (hv : v ≤ 1) (hb : gB G ≤ b) (hd : 6 ≤ d) : VM G mX12_like d 0 0 [.ref (b + 0), .int (nI q), .int (nI v)] (xE (some (.int (colB (fun i => decide ((if nI v = 0 then mThere (up2 S 0 2 0) n i else up2 S 0 2 0 16 i) = mThere (up2 S 0 2 0) n q)) pp 0 0))) (wH G b tbM (up2 S 0 2 0) h0)) (wH G b tbM S h0) := by
  have ciT := ci.cz (j := 2) (x := 0) (by decide)
  have h8 : pp ≤ 8 := ci.2.2.2.2.1
  refine VM_start (ls := [some (.ref (b + 0)), some (.int (nI q)), some (.int (nI v)), none, none, none]) rfl ?_
  -- %m X12_like
  have h1i : inR (nI q) 0 (nI pp - 1) = true := inR_pp (by omega) (by omega)
  refine V_aload_n (pc := 0) (i := 0) dX12_like_0 rfl rfl ?_
  refine V_iconst (pc := 1) (v := 0) dX12_like_1 (by decide) ?_
  refine VW_putI (pc := 2) dX12_like_2 fX12_139 ftX12 (fpI rfl rfl (tyX12_ok 2 (by decide))) (by first | assumption | rfl) rfl (by assumption) ?_
  generalize up2 S 0 2 0 = T at ciT ⊢
  obtain ⟨hn, h12, hg, hp, -⟩ := id ciT
  refine V_aload_n (pc := 5) (i := 0) dX12_like_5 rfl rfl ?_
  refine V_iload_n (pc := 6) (i := 1) dX12_like_6 rfl rfl ?_
  refine V_V1i (pc := 7) dX12_like_7 cX12_384 (by first | assumption | rfl) (X12_isPerson (d := 1) _ (by omega)) (Nat.le_of_ble_eq_true rfl) (by omega) (Nat.le_of_ble_eq_true rfl) ?_
  rw [hp]
  refine V_if_eq (pc := 10) 22 dX12_like_10 rfl (fun c10 => ?_) (fun c10 => ?_)
  · rw [h1i] at c10; exact absurd c10 (by decide)
  · refine V_iload_n (pc := 13) (i := 2) dX12_like_13 rfl rfl ?_
    refine V_if_lt (pc := 14) 22 dX12_like_14 rfl (fun c14 => ?_) (fun c14 => ?_)
    · exact absurd c14 (nI_pos (by omega))
    · refine V_iload_n (pc := 17) (i := 2) dX12_like_17 rfl rfl ?_
      refine V_iconst (pc := 18) (v := 1) dX12_like_18 (by decide) ?_
      refine V_icmp_le (pc := 19) 28 dX12_like_19 rfl (fun c19 => ?_) (fun c19 => ?_)
      · refine V_aload_n (pc := 28) (i := 0) dX12_like_28 rfl rfl ?_
        refine V_iload_n (pc := 29) (i := 1) dX12_like_29 rfl rfl ?_
        refine V_V1i (pc := 30) dX12_like_30 cX12_333 (by first | assumption | rfl) (X12_thereOf (d := 4) hn h12 hg (by omega) (by omega)) (Nat.le_of_ble_eq_true rfl) (by omega) (Nat.le_of_ble_eq_true rfl) ?_
        refine V_istore_n (pc := 33) (i := 3) dX12_like_33 rfl (by decide) rfl ?_
        refine V_iconst (pc := 34) (v := 0) dX12_like_34 (by decide) ?_
        refine V_istore (pc := 35) dX12_like_35 (by decide) rfl ?_
        refine V_iconst (pc := 37) (v := 0) dX12_like_37 (by decide) ?_
        refine V_istore (pc := 38) dX12_like_38 (by decide) rfl ?_
        have loop : ∀ (m i : Nat) (x : Int32), m + i = pp → V G mX12_like d 0 0 (xE (some (.int (colB (fun i => decide ((if nI v = 0 then mThere T n i else T 16 i) = mThere T n q)) m i x))) (wH G b tbM T h0)) 40 [some (.ref (b + 0)), some (.int (nI q)), some (.int (nI v)), some (.int (mThere T n q)), some (.int x), some (.int (nI i))] [] (wH G b tbM T h0) := by
          intro m
          induction m with
          | zero =>
            intro i x hm
            refine V_iload (pc := 40) dX12_like_40 rfl ?_
            refine V_aload_n (pc := 42) (i := 0) dX12_like_42 rfl rfl ?_
            refine VW_getR (pc := 43) dX12_like_43 fX12_36 (by first | assumption | rfl) rfl ?_
            refine V_iconst (pc := 46) (v := 0) dX12_like_46 (by decide) ?_
            refine VW_ialdN (pc := 47) dX12_like_47 (by first | assumption | rfl) (j := 0) rfl (by decide) (by first | decide | omega) ?_
            refine V_icmp_ge (pc := 48) 94 dX12_like_48 rfl (fun c48 => ?_) (fun c48 => ?_)
            · refine V_iload (pc := 94) dX12_like_94 rfl ?_
              exact VE_iret (pc := 96) dX12_like_96 rfl rfl rfl
            · exact absurd (by rw [hp, show i = pp by omega]; exact nI_le (by omega) (by omega)) c48
          | succ m ih =>
            intro i x hm
            rw [colB]
            refine V_iload (pc := 40) dX12_like_40 rfl ?_
            refine V_aload_n (pc := 42) (i := 0) dX12_like_42 rfl rfl ?_
            refine VW_getR (pc := 43) dX12_like_43 fX12_36 (by first | assumption | rfl) rfl ?_
            refine V_iconst (pc := 46) (v := 0) dX12_like_46 (by decide) ?_
            refine VW_ialdN (pc := 47) dX12_like_47 (by first | assumption | rfl) (j := 0) rfl (by decide) (by first | decide | omega) ?_
            refine V_icmp_ge (pc := 48) 94 dX12_like_48 rfl (fun c48 => ?_) (fun c48 => ?_)
            · exact absurd c48 (by rw [hp]; exact nI_ge (by omega) (by omega))
            · refine V_iload (pc := 51) dX12_like_51 rfl ?_
              refine V_iload_n (pc := 53) (i := 2) dX12_like_53 rfl rfl ?_
              refine V_if_ne (pc := 54) 66 dX12_like_54 rfl (fun c54 => ?_) (fun c54 => ?_)
              · rw [if_neg c54]
                refine V_aload_n (pc := 66) (i := 0) dX12_like_66 rfl rfl ?_
                refine VW_getR (pc := 67) dX12_like_67 fX12_80 (by first | assumption | rfl) rfl ?_
                refine V_iload (pc := 70) dX12_like_70 rfl ?_
                refine VW_ialdN (pc := 72) dX12_like_72 (by first | assumption | rfl) rfl (by omega) (by first | decide | omega) ?_
                refine V_iload_n (pc := 73) (i := 3) dX12_like_73 rfl rfl ?_
                refine V_icmp_ne (pc := 74) 84 dX12_like_74 rfl (fun c74 => ?_) (fun c74 => ?_)
                · rw [if_neg (by rw [decide_eq_false c74]; decide)]
                  refine V_iconst (pc := 84) (v := 0) dX12_like_84 (by decide) ?_
                  refine V_ior (pc := 85) dX12_like_85 ?_
                  (first | rw [Int32.or_zero] | skip)
                  refine V_istore (pc := 86) dX12_like_86 (by decide) rfl ?_
                  refine V_iinc (pc := 88) dX12_like_88 (by decide) rfl rfl (iincN (n := 1) (by decide)) ?_
                  refine V_goto (pc := 91) 40 dX12_like_91 rfl ?_
                  exact ih (i + 1) _ (by omega)
                · rw [if_pos (decide_eq_true c74)]
                  refine V_iconst (pc := 77) (v := 1) dX12_like_77 (by decide) ?_
                  refine V_iload (pc := 78) dX12_like_78 rfl ?_
                  refine V_ishl (pc := 80) dX12_like_80 ?_
                  refine V_goto (pc := 81) 85 dX12_like_81 rfl ?_
                  refine V_ior (pc := 85) dX12_like_85 ?_
                  (first | rw [Int32.or_zero] | skip)
                  refine V_istore (pc := 86) dX12_like_86 (by decide) rfl ?_
                  refine V_iinc (pc := 88) dX12_like_88 (by decide) rfl rfl (iincN (n := 1) (by decide)) ?_
                  refine V_goto (pc := 91) 40 dX12_like_91 rfl ?_
                  exact ih (i + 1) _ (by omega)
              · rw [if_pos c54]
                refine V_aload_n (pc := 57) (i := 0) dX12_like_57 rfl rfl ?_
                refine V_iload (pc := 58) dX12_like_58 rfl ?_
                refine V_V1i (pc := 60) dX12_like_60 cX12_333 (by first | assumption | rfl) (X12_thereOf (d := 4) hn h12 hg (by omega) (by omega)) (Nat.le_of_ble_eq_true rfl) (by omega) (Nat.le_of_ble_eq_true rfl) ?_
                refine V_goto (pc := 63) 73 dX12_like_63 rfl ?_
                refine V_iload_n (pc := 73) (i := 3) dX12_like_73 rfl rfl ?_
                refine V_icmp_ne (pc := 74) 84 dX12_like_74 rfl (fun c74 => ?_) (fun c74 => ?_)
                · rw [if_neg (by rw [decide_eq_false c74]; decide)]
                  refine V_iconst (pc := 84) (v := 0) dX12_like_84 (by decide) ?_
                  refine V_ior (pc := 85) dX12_like_85 ?_
                  (first | rw [Int32.or_zero] | skip)
                  refine V_istore (pc := 86) dX12_like_86 (by decide) rfl ?_
                  refine V_iinc (pc := 88) dX12_like_88 (by decide) rfl rfl (iincN (n := 1) (by decide)) ?_
                  refine V_goto (pc := 91) 40 dX12_like_91 rfl ?_
                  exact ih (i + 1) _ (by omega)
                · rw [if_pos (decide_eq_true c74)]
                  refine V_iconst (pc := 77) (v := 1) dX12_like_77 (by decide) ?_
                  refine V_iload (pc := 78) dX12_like_78 rfl ?_
                  refine V_ishl (pc := 80) dX12_like_80 ?_
                  refine V_goto (pc := 81) 85 dX12_like_81 rfl ?_
                  refine V_ior (pc := 85) dX12_like_85 ?_
                  (first | rw [Int32.or_zero] | skip)
                  refine V_istore (pc := 86) dX12_like_86 (by decide) rfl ?_
                  refine V_iinc (pc := 88) dX12_like_88 (by decide) rfl rfl (iincN (n := 1) (by decide)) ?_
                  refine V_goto (pc := 91) 40 dX12_like_91 rfl ?_
                  exact ih (i + 1) _ (by omega)
        exact loop pp 0 0 rfl
      · exact absurd (nI_le (b := 1) (by omega) (by decide)) c19
theorem orB_in {f : Nat → Int32} {x : Int32} {pp : Nat} (hf : ∀ i, i < pp → ∃ c, c < 1024 ∧ f i = nI c) : ∀ (m i a : Nat), m + i = pp → a < 1024 → ∃ c, c < 1024 ∧ orB f x m i (nI a) = nI c := by
  intro m
  induction m with
  | zero => intro i a _ ha; exact ⟨a, ha, rfl⟩
  | succ m ih =>
    intro i a hm ha
    rw [orB]
    split
    · obtain ⟨c, hc, ec⟩ := hf i (by omega)
      rw [ec, nx_or]
      exact ih (i + 1) _ (by omega) (Nat.or_lt_two_pow (n := 10) ha hc)
    · exact ih (i + 1) a (by omega) ha
theorem X12_toSend {n pp r bb k : Nat} (ci : MI S n pp r bb) (po : PO S pp) (hk : k ≤ 8) (hb : gB G ≤ b) (hd : 6 ≤ d) : VM G mX12_toSend d 0 0 [.ref (b + 0), .int (nI k)] (xE (some (.int (sndF (fun i => orB (mThere (up2 S 0 2 0) n) (nI i) pp 0 0) (nI k) (2 ^ pp) 0 (-1) (-1)))) (wH G b tbM (up2 S 0 2 0) h0)) (wH G b tbM S h0) := by
  have ciT := ci.cz (j := 2) (x := 0) (by decide)
  have poT := po.cz (j := 2) (x := 0)
  have h8 : pp ≤ 8 := ci.2.2.2.2.1
  refine VM_start (ls := [some (.ref (b + 0)), some (.int (nI k)), none, none, none, none, none]) rfl ?_
  -- %m X12_toSend
  have h1i : inR (nI k) 0 8 = true := inR_ok (l := 0) (m := 8) (by omega) (by omega) (by decide)
  refine V_aload_n (pc := 0) (i := 0) dX12_toSend_0 rfl rfl ?_
  refine V_iconst (pc := 1) (v := 0) dX12_toSend_1 (by decide) ?_
  refine VW_putI (pc := 2) dX12_toSend_2 fX12_139 ftX12 (fpI rfl rfl (tyX12_ok 2 (by decide))) (by first | assumption | rfl) rfl (by assumption) ?_
  generalize up2 S 0 2 0 = T at ciT poT ⊢
  obtain ⟨hn, h12, hg, hp, -⟩ := id ciT
  refine V_iload_n (pc := 5) (i := 1) dX12_toSend_5 rfl rfl ?_
  refine V_i2l (pc := 6) dX12_toSend_6 rfl ?_
  refine V_lconst (pc := 7) (v := 0) dX12_toSend_7 (by decide) ?_
  refine V_ldc2 (pc := 8) dX12_toSend_8 lX12_405 ?_
  refine V_S3i (pc := 11) dX12_toSend_11 cX12_142 (X12_isInC (d := 0) _ (l' := 0) (m' := 8) (by decide) (by decide)) (Nat.le_of_ble_eq_true rfl) (by omega) (Nat.le_of_ble_eq_true rfl) ?_
  refine V_if_ne (pc := 14) 23 dX12_toSend_14 rfl (fun c14 => ?_) (fun c14 => ?_)
  · refine V_iconst (pc := 23) (v := -1) dX12_toSend_23 (by decide) ?_
    refine V_istore_n (pc := 24) (i := 2) dX12_toSend_24 rfl (by decide) rfl ?_
    refine V_iconst (pc := 25) (v := -1) dX12_toSend_25 (by decide) ?_
    refine V_istore_n (pc := 26) (i := 3) dX12_toSend_26 rfl (by decide) rfl ?_
    refine V_iconst (pc := 27) (v := 0) dX12_toSend_27 (by decide) ?_
    refine V_istore (pc := 28) dX12_toSend_28 (by decide) rfl ?_
    have h2n : 2 ^ pp ≤ 256 := Nat.pow_le_pow_right (by decide) (show pp ≤ 8 from h8)
    have inner : ∀ (m i : Nat) (x z y w : Int32) (Q : xR → xH → Prop), m + i = pp → V G mX12_toSend d 0 0 Q 103 [some (.ref (b + 0)), some (.int (nI k)), some (.int z), some (.int y), some (.int w), some (.int (orB (mThere T n) w m i x)), some (.int (nI pp))] [] (wH G b tbM T h0) → V G mX12_toSend d 0 0 Q 61 [some (.ref (b + 0)), some (.int (nI k)), some (.int z), some (.int y), some (.int w), some (.int x), some (.int (nI i))] [] (wH G b tbM T h0) := by
      intro m
      induction m with
      | zero =>
        intro i x z y w Q hm kk
        refine V_iload (pc := 61) dX12_toSend_61 rfl ?_
        refine V_aload_n (pc := 63) (i := 0) dX12_toSend_63 rfl rfl ?_
        refine VW_getR (pc := 64) dX12_toSend_64 fX12_36 (by first | assumption | rfl) rfl ?_
        refine V_iconst (pc := 67) (v := 0) dX12_toSend_67 (by decide) ?_
        refine VW_ialdN (pc := 68) dX12_toSend_68 (by first | assumption | rfl) (j := 0) rfl (by decide) (by first | decide | omega) ?_
        rw [show i = pp by omega]
        refine V_icmp_ge (pc := 69) 103 dX12_toSend_69 rfl (fun c69 => ?_) (fun c69 => ?_)
        · exact kk
        · exact absurd (by rw [hp]; exact nI_le (by omega) (by omega)) c69
      | succ m ih =>
        intro i x z y w Q hm kk
        rw [orB] at kk
        refine V_iload (pc := 61) dX12_toSend_61 rfl ?_
        refine V_aload_n (pc := 63) (i := 0) dX12_toSend_63 rfl rfl ?_
        refine VW_getR (pc := 64) dX12_toSend_64 fX12_36 (by first | assumption | rfl) rfl ?_
        refine V_iconst (pc := 67) (v := 0) dX12_toSend_67 (by decide) ?_
        refine VW_ialdN (pc := 68) dX12_toSend_68 (by first | assumption | rfl) (j := 0) rfl (by decide) (by first | decide | omega) ?_
        refine V_icmp_ge (pc := 69) 103 dX12_toSend_69 rfl (fun c69 => ?_) (fun c69 => ?_)
        · exact absurd c69 (by rw [hp]; exact nI_ge (by omega) (by omega))
        · refine V_iload (pc := 72) dX12_toSend_72 rfl ?_
          refine V_iload (pc := 74) dX12_toSend_74 rfl ?_
          refine V_iload (pc := 76) dX12_toSend_76 rfl ?_
          refine V_S2i (pc := 78) dX12_toSend_78 cX12_263 (X12_isOf (d := 0) _ _) (Nat.le_of_ble_eq_true rfl) (by omega) (Nat.le_of_ble_eq_true rfl) ?_
          refine V_if_eq (pc := 81) 93 dX12_toSend_81 rfl (fun c81 => ?_) (fun c81 => ?_)
          · rw [if_neg (by rw [b2i_0.mp c81]; decide)] at kk
            refine V_iconst (pc := 93) (v := 0) dX12_toSend_93 (by decide) ?_
            refine V_ior (pc := 94) dX12_toSend_94 ?_
            rw [Int32.or_zero]
            refine V_istore (pc := 95) dX12_toSend_95 (by decide) rfl ?_
            refine V_iinc (pc := 97) dX12_toSend_97 (by decide) rfl rfl (iincN (n := 1) (by decide)) ?_
            refine V_goto (pc := 100) 61 dX12_toSend_100 rfl ?_
            exact ih (i + 1) _ _ _ _ Q (by omega) kk
          · rw [if_pos (b2i_n0.mp c81)] at kk
            refine V_aload_n (pc := 84) (i := 0) dX12_toSend_84 rfl rfl ?_
            refine V_iload (pc := 85) dX12_toSend_85 rfl ?_
            refine V_V1i (pc := 87) dX12_toSend_87 cX12_333 (by first | assumption | rfl) (X12_thereOf (d := 4) hn h12 hg (by omega) (by omega)) (Nat.le_of_ble_eq_true rfl) (by omega) (Nat.le_of_ble_eq_true rfl) ?_
            refine V_goto (pc := 90) 94 dX12_toSend_90 rfl ?_
            refine V_ior (pc := 94) dX12_toSend_94 ?_
            refine V_istore (pc := 95) dX12_toSend_95 (by decide) rfl ?_
            refine V_iinc (pc := 97) dX12_toSend_97 (by decide) rfl rfl (iincN (n := 1) (by decide)) ?_
            refine V_goto (pc := 100) 61 dX12_toSend_100 rfl ?_
            exact ih (i + 1) _ _ _ _ Q (by omega) kk
    have loop : ∀ (m i : Nat) (z y : Int32), m + i = 2 ^ pp → V G mX12_toSend d 0 0 (xE (some (.int (sndF (fun i => orB (mThere T n) (nI i) pp 0 0) (nI k) m i z y))) (wH G b tbM T h0)) 30 [some (.ref (b + 0)), some (.int (nI k)), some (.int z), some (.int y), some (.int (nI i)), none, none] [] (wH G b tbM T h0) := by
      intro m
      induction m with
      | zero =>
        intro i z y hm
        refine V_iload (pc := 30) dX12_toSend_30 rfl ?_
        refine V_iconst (pc := 32) (v := 1) dX12_toSend_32 (by decide) ?_
        refine V_aload_n (pc := 33) (i := 0) dX12_toSend_33 rfl rfl ?_
        refine VW_getR (pc := 34) dX12_toSend_34 fX12_36 (by first | assumption | rfl) rfl ?_
        refine V_iconst (pc := 37) (v := 0) dX12_toSend_37 (by decide) ?_
        refine VW_ialdN (pc := 38) dX12_toSend_38 (by first | assumption | rfl) (j := 0) rfl (by decide) (by first | decide | omega) ?_
        rw [hp]
        refine V_ishl (pc := 39) dX12_toSend_39 ?_
        rw [st1 (by omega)]
        refine V_icmp_ge (pc := 40) 130 dX12_toSend_40 rfl (fun c40 => ?_) (fun c40 => ?_)
        · refine V_iload_n (pc := 130) (i := 2) dX12_toSend_130 rfl rfl ?_
          exact VE_iret (pc := 131) dX12_toSend_131 rfl rfl rfl
        · exact absurd (by rw [show i = 2 ^ pp by omega]; exact nI_le (by omega) (by omega)) c40
      | succ m ih =>
        intro i z y hm
        rw [sndF]
        obtain ⟨c, hc, ec⟩ := orB_in (f := mThere T n) (x := nI i) (fun j hj => mThere_in h12 hg poT hj) pp 0 0 rfl (by decide)
        refine V_iload (pc := 30) dX12_toSend_30 rfl ?_
        refine V_iconst (pc := 32) (v := 1) dX12_toSend_32 (by decide) ?_
        refine V_aload_n (pc := 33) (i := 0) dX12_toSend_33 rfl rfl ?_
        refine VW_getR (pc := 34) dX12_toSend_34 fX12_36 (by first | assumption | rfl) rfl ?_
        refine V_iconst (pc := 37) (v := 0) dX12_toSend_37 (by decide) ?_
        refine VW_ialdN (pc := 38) dX12_toSend_38 (by first | assumption | rfl) (j := 0) rfl (by decide) (by first | decide | omega) ?_
        rw [hp]
        refine V_ishl (pc := 39) dX12_toSend_39 ?_
        rw [st1 (by omega)]
        refine V_icmp_ge (pc := 40) 130 dX12_toSend_40 rfl (fun c40 => ?_) (fun c40 => ?_)
        · exact absurd c40 (nI_ge (by omega) (by omega))
        · refine V_iload (pc := 43) dX12_toSend_43 rfl ?_
          refine V_S1i (pc := 45) dX12_toSend_45 cX12_357 (X12_bitsOf (d := 0) (by omega)) (Nat.le_of_ble_eq_true rfl) (by omega) (Nat.le_of_ble_eq_true rfl) ?_
          refine V_iload_n (pc := 48) (i := 1) dX12_toSend_48 rfl rfl ?_
          refine V_icmp_eq (pc := 49) 55 dX12_toSend_49 rfl (fun c49 => ?_) (fun c49 => ?_)
          · refine V_iconst (pc := 55) (v := 0) dX12_toSend_55 (by decide) ?_
            refine V_istore (pc := 56) dX12_toSend_56 (by decide) rfl ?_
            refine V_iconst (pc := 58) (v := 0) dX12_toSend_58 (by decide) ?_
            refine V_istore (pc := 59) dX12_toSend_59 (by decide) rfl ?_
            rw [if_pos c49]
            refine inner pp 0 0 _ _ _ _ rfl ?_
            refine V_iload (pc := 103) dX12_toSend_103 rfl ?_
            refine V_S1i (pc := 105) dX12_toSend_105 cX12_357 (X12_bitsE (d := 0) ec (by omega)) (Nat.le_of_ble_eq_true rfl) (by omega) (Nat.le_of_ble_eq_true rfl) ?_
            refine V_iload_n (pc := 108) (i := 3) dX12_toSend_108 rfl rfl ?_
            refine V_icmp_gt (pc := 109) 115 dX12_toSend_109 rfl (fun c109 => ?_) (fun c109 => ?_)
            · rw [if_pos c109]
              refine V_iload (pc := 115) dX12_toSend_115 rfl ?_
              refine V_istore_n (pc := 117) (i := 2) dX12_toSend_117 rfl (by decide) rfl ?_
              refine V_iload (pc := 118) dX12_toSend_118 rfl ?_
              refine V_S1i (pc := 120) dX12_toSend_120 cX12_357 (X12_bitsE (d := 0) ec (by omega)) (Nat.le_of_ble_eq_true rfl) (by omega) (Nat.le_of_ble_eq_true rfl) ?_
              refine V_istore_n (pc := 123) (i := 3) dX12_toSend_123 rfl (by decide) rfl ?_
              refine V_iinc (pc := 124) dX12_toSend_124 (by decide) rfl rfl (iincN (n := 1) (by decide)) ?_
              refine V_goto (pc := 127) 30 dX12_toSend_127 rfl ?_
              exact V_forget 5 (V_forget 6 (ih (i + 1) _ _ (by omega)))
            · rw [if_neg c109]
              refine V_goto (pc := 112) 124 dX12_toSend_112 rfl ?_
              refine V_iinc (pc := 124) dX12_toSend_124 (by decide) rfl rfl (iincN (n := 1) (by decide)) ?_
              refine V_goto (pc := 127) 30 dX12_toSend_127 rfl ?_
              exact V_forget 5 (V_forget 6 (ih (i + 1) _ _ (by omega)))
          · rw [if_neg c49]
            refine V_goto (pc := 52) 124 dX12_toSend_52 rfl ?_
            refine V_iinc (pc := 124) dX12_toSend_124 (by decide) rfl rfl (iincN (n := 1) (by decide)) ?_
            refine V_goto (pc := 127) 30 dX12_toSend_127 rfl ?_
            exact ih (i + 1) _ _ (by omega)
    exact loop (2 ^ pp) 0 _ _ (by omega)
  · rw [h1i] at c14; exact absurd c14 (by decide)
def mBank (T : Nat → Nat → Int32) (n v q : Nat) : Int32 := if nI v = 0 then T 16 q else if nI v = 1 then mThere T n q else mSpare T n q
theorem X12_worthBy {n pp r bb q v : Nat} (ci : MI T n pp r bb) (hq : q < 8) (hb : gB G ≤ b) (hd : 5 ≤ d) : VM G mX12_worthBy d 0 0 [.ref (b + 0), .int (nI q), .int (nI v)] (xE (some (.int (sumB (T 4) (mBank T n v q) 10 0 0))) (wH G b tbM T h0)) (wH G b tbM T h0) := by
  obtain ⟨hn, h12, hg, hp, -⟩ := id ci
  refine VM_start (ls := [some (.ref (b + 0)), some (.int (nI q)), some (.int (nI v))]) rfl ?_
  unfold mBank
  -- %m X12_worthBy
  refine V_aload_n (pc := 0) (i := 0) dX12_worthBy_0 rfl rfl ?_
  refine V_iload_n (pc := 1) (i := 2) dX12_worthBy_1 rfl rfl ?_
  refine V_if_ne (pc := 2) 14 dX12_worthBy_2 rfl (fun c2 => ?_) (fun c2 => ?_)
  · rw [if_neg c2]
    refine V_iload_n (pc := 14) (i := 2) dX12_worthBy_14 rfl rfl ?_
    refine V_iconst (pc := 15) (v := 1) dX12_worthBy_15 (by decide) ?_
    refine V_icmp_ne (pc := 16) 27 dX12_worthBy_16 rfl (fun c16 => ?_) (fun c16 => ?_)
    · rw [if_neg c16]
      refine V_aload_n (pc := 27) (i := 0) dX12_worthBy_27 rfl rfl ?_
      refine V_iload_n (pc := 28) (i := 1) dX12_worthBy_28 rfl rfl ?_
      refine V_V1i (pc := 29) dX12_worthBy_29 cX12_336 (by first | assumption | rfl) (X12_sparedOf (d := 4) hn h12 hg (by omega) (by omega)) (Nat.le_of_ble_eq_true rfl) (by omega) (Nat.le_of_ble_eq_true rfl) ?_
      refine V_V1i (pc := 32) dX12_worthBy_32 cX12_330 (by first | assumption | rfl) (X12_worthOf (d := 1) _ (by omega)) (Nat.le_of_ble_eq_true rfl) (by omega) (Nat.le_of_ble_eq_true rfl) ?_
      exact VE_iret (pc := 35) dX12_worthBy_35 rfl rfl rfl
    · rw [if_pos c16]
      refine V_aload_n (pc := 19) (i := 0) dX12_worthBy_19 rfl rfl ?_
      refine V_iload_n (pc := 20) (i := 1) dX12_worthBy_20 rfl rfl ?_
      refine V_V1i (pc := 21) dX12_worthBy_21 cX12_333 (by first | assumption | rfl) (X12_thereOf (d := 4) hn h12 hg (by omega) (by omega)) (Nat.le_of_ble_eq_true rfl) (by omega) (Nat.le_of_ble_eq_true rfl) ?_
      refine V_goto (pc := 24) 32 dX12_worthBy_24 rfl ?_
      refine V_V1i (pc := 32) dX12_worthBy_32 cX12_330 (by first | assumption | rfl) (X12_worthOf (d := 1) _ (by omega)) (Nat.le_of_ble_eq_true rfl) (by omega) (Nat.le_of_ble_eq_true rfl) ?_
      exact VE_iret (pc := 35) dX12_worthBy_35 rfl rfl rfl
  · rw [if_pos c2]
    refine V_aload_n (pc := 5) (i := 0) dX12_worthBy_5 rfl rfl ?_
    refine VW_getR (pc := 6) dX12_worthBy_6 fX12_80 (by first | assumption | rfl) rfl ?_
    refine V_iload_n (pc := 9) (i := 1) dX12_worthBy_9 rfl rfl ?_
    refine VW_ialdN (pc := 10) dX12_worthBy_10 (by first | assumption | rfl) rfl (by omega) (by first | decide | omega) ?_
    refine V_goto (pc := 11) 32 dX12_worthBy_11 rfl ?_
    refine V_V1i (pc := 32) dX12_worthBy_32 cX12_330 (by first | assumption | rfl) (X12_worthOf (d := 1) _ (by omega)) (Nat.le_of_ble_eq_true rfl) (by omega) (Nat.le_of_ble_eq_true rfl) ?_
    exact VE_iret (pc := 35) dX12_worthBy_35 rfl rfl rfl
def mstM (w : Nat → Int32) : Nat → Nat → Int32 → Int32
  | 0, _, z => z
  | m + 1, i, z => mstM w m (i + 1) (if z = -1 ∨ w z.toNatClampNeg < w i then nI i else z)
theorem X12_happiest {n pp r bb v : Nat} (ci : MI S n pp r bb) (hv : v ≤ 2) (hb : gB G ≤ b) (hd : 6 ≤ d) : VM G mX12_happiest d 0 0 [.ref (b + 0), .int (nI v)] (xE (some (.int (mstM (fun i => sumB (up2 S 0 2 0 4) (mBank (up2 S 0 2 0) n v i) 10 0 0) pp 0 (-1)))) (wH G b tbM (up2 S 0 2 0) h0)) (wH G b tbM S h0) := by
  have ciT := ci.cz (j := 2) (x := 0) (by decide)
  have h8 : pp ≤ 8 := ci.2.2.2.2.1
  refine VM_start (ls := [some (.ref (b + 0)), some (.int (nI v)), none, none]) rfl ?_
  -- %m X12_happiest
  have h1i : inR (nI v) 0 2 = true := inR_ok (l := 0) (m := 2) (by omega) (by omega) (by decide)
  refine V_aload_n (pc := 0) (i := 0) dX12_happiest_0 rfl rfl ?_
  refine V_iconst (pc := 1) (v := 0) dX12_happiest_1 (by decide) ?_
  refine VW_putI (pc := 2) dX12_happiest_2 fX12_139 ftX12 (fpI rfl rfl (tyX12_ok 2 (by decide))) (by first | assumption | rfl) rfl (by assumption) ?_
  generalize up2 S 0 2 0 = T at ciT ⊢
  obtain ⟨hn, h12, hg, hp, -⟩ := id ciT
  refine V_iload_n (pc := 5) (i := 1) dX12_happiest_5 rfl rfl ?_
  refine V_i2l (pc := 6) dX12_happiest_6 rfl ?_
  refine V_lconst (pc := 7) (v := 0) dX12_happiest_7 (by decide) ?_
  refine V_ldc2 (pc := 8) dX12_happiest_8 lX12_418 ?_
  refine V_S3i (pc := 11) dX12_happiest_11 cX12_142 (X12_isInC (d := 0) _ (l' := 0) (m' := 2) (by decide) (by decide)) (Nat.le_of_ble_eq_true rfl) (by omega) (Nat.le_of_ble_eq_true rfl) ?_
  refine V_if_ne (pc := 14) 23 dX12_happiest_14 rfl (fun c14 => ?_) (fun c14 => ?_)
  · refine V_iconst (pc := 23) (v := -1) dX12_happiest_23 (by decide) ?_
    refine V_istore_n (pc := 24) (i := 2) dX12_happiest_24 rfl (by decide) rfl ?_
    refine V_iconst (pc := 25) (v := 0) dX12_happiest_25 (by decide) ?_
    refine V_istore_n (pc := 26) (i := 3) dX12_happiest_26 rfl (by decide) rfl ?_
    have loop : ∀ (m i : Nat) (z : Int32), m + i = pp → (z = -1 ∨ ∃ j, j < i ∧ z = nI j) → V G mX12_happiest d 0 0 (xE (some (.int (mstM (fun i => sumB (T 4) (mBank T n v i) 10 0 0) m i z))) (wH G b tbM T h0)) 27 [some (.ref (b + 0)), some (.int (nI v)), some (.int z), some (.int (nI i))] [] (wH G b tbM T h0) := by
      intro m
      induction m with
      | zero =>
        intro i z hm hz
        refine V_iload_n (pc := 27) (i := 3) dX12_happiest_27 rfl rfl ?_
        refine V_aload_n (pc := 28) (i := 0) dX12_happiest_28 rfl rfl ?_
        refine VW_getR (pc := 29) dX12_happiest_29 fX12_36 (by first | assumption | rfl) rfl ?_
        refine V_iconst (pc := 32) (v := 0) dX12_happiest_32 (by decide) ?_
        refine VW_ialdN (pc := 33) dX12_happiest_33 (by first | assumption | rfl) (j := 0) rfl (by decide) (by first | decide | omega) ?_
        refine V_icmp_ge (pc := 34) 65 dX12_happiest_34 rfl (fun c34 => ?_) (fun c34 => ?_)
        · refine V_iload_n (pc := 65) (i := 2) dX12_happiest_65 rfl rfl ?_
          exact VE_iret (pc := 66) dX12_happiest_66 rfl rfl rfl
        · exact absurd (by rw [hp, show i = pp by omega]; exact nI_le (by omega) (by omega)) c34
      | succ m ih =>
        intro i z hm hz
        rw [mstM]
        have hz2 : z = -1 ∨ ∃ j, j < i + 1 ∧ z = nI j := by
          rcases hz with q | ⟨j, q1, q2⟩
          · exact Or.inl q
          · exact Or.inr ⟨j, by omega, q2⟩
        refine V_iload_n (pc := 27) (i := 3) dX12_happiest_27 rfl rfl ?_
        refine V_aload_n (pc := 28) (i := 0) dX12_happiest_28 rfl rfl ?_
        refine VW_getR (pc := 29) dX12_happiest_29 fX12_36 (by first | assumption | rfl) rfl ?_
        refine V_iconst (pc := 32) (v := 0) dX12_happiest_32 (by decide) ?_
        refine VW_ialdN (pc := 33) dX12_happiest_33 (by first | assumption | rfl) (j := 0) rfl (by decide) (by first | decide | omega) ?_
        refine V_icmp_ge (pc := 34) 65 dX12_happiest_34 rfl (fun c34 => ?_) (fun c34 => ?_)
        · exact absurd c34 (by rw [hp]; exact nI_ge (by omega) (by omega))
        · refine V_iload_n (pc := 37) (i := 2) dX12_happiest_37 rfl rfl ?_
          refine V_iconst (pc := 38) (v := -1) dX12_happiest_38 (by decide) ?_
          refine V_icmp_eq (pc := 39) 57 dX12_happiest_39 rfl (fun c39 => ?_) (fun c39 => ?_)
          · rw [if_pos (Or.inl c39)]
            refine V_iload_n (pc := 57) (i := 3) dX12_happiest_57 rfl rfl ?_
            refine V_istore_n (pc := 58) (i := 2) dX12_happiest_58 rfl (by decide) rfl ?_
            refine V_iinc (pc := 59) dX12_happiest_59 (by decide) rfl rfl (iincN (n := 1) (by decide)) ?_
            refine V_goto (pc := 62) 27 dX12_happiest_62 rfl ?_
            exact ih (i + 1) _ (by omega) (Or.inr ⟨i, by omega, rfl⟩)
          · obtain ⟨j, hj, ej⟩ := hz.resolve_left c39
            subst ej
            refine V_aload_n (pc := 42) (i := 0) dX12_happiest_42 rfl rfl ?_
            refine V_iload_n (pc := 43) (i := 3) dX12_happiest_43 rfl rfl ?_
            refine V_iload_n (pc := 44) (i := 1) dX12_happiest_44 rfl rfl ?_
            refine V_V2i (pc := 45) dX12_happiest_45 cX12_420 (by first | assumption | rfl) (X12_worthBy (d := 5) ciT (by omega) hb (by omega)) (Nat.le_of_ble_eq_true rfl) (by omega) (Nat.le_of_ble_eq_true rfl) ?_
            refine V_aload_n (pc := 48) (i := 0) dX12_happiest_48 rfl rfl ?_
            refine V_iload_n (pc := 49) (i := 2) dX12_happiest_49 rfl rfl ?_
            refine V_iload_n (pc := 50) (i := 1) dX12_happiest_50 rfl rfl ?_
            refine V_V2i (pc := 51) dX12_happiest_51 cX12_420 (by first | assumption | rfl) (X12_worthBy (d := 5) ciT (by omega) hb (by omega)) (Nat.le_of_ble_eq_true rfl) (by omega) (Nat.le_of_ble_eq_true rfl) ?_
            refine V_icmp_le (pc := 54) 59 dX12_happiest_54 rfl (fun c54 => ?_) (fun c54 => ?_)
            · rw [if_neg (fun q => q.elim c39 (fun q => by rw [nI_clamp (by omega)] at q; exact absurd q (Int32.not_lt.mpr c54)))]
              refine V_iinc (pc := 59) dX12_happiest_59 (by decide) rfl rfl (iincN (n := 1) (by decide)) ?_
              refine V_goto (pc := 62) 27 dX12_happiest_62 rfl ?_
              exact ih (i + 1) _ (by omega) hz2
            · rw [if_pos (Or.inr (by rw [nI_clamp (by omega)]; exact Int32.not_le.mp c54))]
              refine V_iload_n (pc := 57) (i := 3) dX12_happiest_57 rfl rfl ?_
              refine V_istore_n (pc := 58) (i := 2) dX12_happiest_58 rfl (by decide) rfl ?_
              refine V_iinc (pc := 59) dX12_happiest_59 (by decide) rfl rfl (iincN (n := 1) (by decide)) ?_
              refine V_goto (pc := 62) 27 dX12_happiest_62 rfl ?_
              exact ih (i + 1) _ (by omega) (Or.inr ⟨i, by omega, rfl⟩)
    exact loop pp 0 _ rfl (Or.inl rfl)
  · rw [h1i] at c14; exact absurd c14 (by decide)
theorem X12_critical {n pp r bb q : Nat} (ci : MI S n pp r bb) (hq : q < pp) (hb : gB G ≤ b) (hd : 6 ≤ d) : VM G mX12_critical d 0 0 [.ref (b + 0), .int (nI q)] (xE (some (.int (colB (fun i => !hasB (up2 S 0 2 0 0 34) (nI i) && !decide (allF (mF (up2 S 0 2 0) n (up2 S 0 2 0 0 34 ||| 1 <<< (nI i &&& 31))) (up2 S 0 2 0 12) 10 (up2 S 0 2 0 16 q ||| 1 <<< (up2 S 0 2 0 17 q &&& 31)) &&& (1023 : Int32) = allF (mF (up2 S 0 2 0) n (up2 S 0 2 0 0 34)) (up2 S 0 2 0 12) 10 (up2 S 0 2 0 16 q ||| 1 <<< (up2 S 0 2 0 17 q &&& 31)) &&& (1023 : Int32))) n 0 0))) (wH G b tbM (up2 S 0 2 0) h0)) (wH G b tbM S h0) := by
  have ciT := ci.cz (j := 2) (x := 0) (by decide)
  have h8 : pp ≤ 8 := ci.2.2.2.2.1
  refine VM_start (ls := [some (.ref (b + 0)), some (.int (nI q))]) rfl ?_
  -- %m X12_critical
  have h1i : inR (nI q) 0 (nI pp - 1) = true := inR_pp (by omega) (by omega)
  refine V_aload_n (pc := 0) (i := 0) dX12_critical_0 rfl rfl ?_
  refine V_iconst (pc := 1) (v := 0) dX12_critical_1 (by decide) ?_
  refine VW_putI (pc := 2) dX12_critical_2 fX12_139 ftX12 (fpI rfl rfl (tyX12_ok 2 (by decide))) (by first | assumption | rfl) rfl (by assumption) ?_
  generalize up2 S 0 2 0 = T at ciT ⊢
  obtain ⟨hn, h12, hg, hp, -⟩ := id ciT
  refine V_aload_n (pc := 5) (i := 0) dX12_critical_5 rfl rfl ?_
  refine V_iload_n (pc := 6) (i := 1) dX12_critical_6 rfl rfl ?_
  refine V_V1i (pc := 7) dX12_critical_7 cX12_384 (by first | assumption | rfl) (X12_isPerson (d := 1) _ (by omega)) (Nat.le_of_ble_eq_true rfl) (by omega) (Nat.le_of_ble_eq_true rfl) ?_
  rw [hp]
  refine V_if_eq (pc := 10) 38 dX12_critical_10 rfl (fun c10 => ?_) (fun c10 => ?_)
  · rw [h1i] at c10; exact absurd c10 (by decide)
  · refine V_aload_n (pc := 13) (i := 0) dX12_critical_13 rfl rfl ?_
    refine V_aload_n (pc := 14) (i := 0) dX12_critical_14 rfl rfl ?_
    refine VW_getR (pc := 15) dX12_critical_15 fX12_80 (by first | assumption | rfl) rfl ?_
    refine V_iload_n (pc := 18) (i := 1) dX12_critical_18 rfl rfl ?_
    refine VW_ialdN (pc := 19) dX12_critical_19 (by first | assumption | rfl) rfl (by omega) (by first | decide | omega) ?_
    refine V_iconst (pc := 20) (v := 1) dX12_critical_20 (by decide) ?_
    refine V_aload_n (pc := 21) (i := 0) dX12_critical_21 rfl rfl ?_
    refine VW_getR (pc := 22) dX12_critical_22 fX12_83 (by first | assumption | rfl) rfl ?_
    refine V_iload_n (pc := 25) (i := 1) dX12_critical_25 rfl rfl ?_
    refine VW_ialdN (pc := 26) dX12_critical_26 (by first | assumption | rfl) rfl (by omega) (by first | decide | omega) ?_
    refine V_ishl (pc := 27) dX12_critical_27 ?_
    refine V_ior (pc := 28) dX12_critical_28 ?_
    refine V_sipush (pc := 29) (v := 1023) dX12_critical_29 (by decide) ?_
    refine V_V2i (pc := 32) dX12_critical_32 cX12_415 (by first | assumption | rfl) (X12_parting (d := 4) hn h12 hg _ _ hb (by omega)) (Nat.le_of_ble_eq_true rfl) (by omega) (Nat.le_of_ble_eq_true rfl) ?_
    refine V_goto (pc := 35) 43 dX12_critical_35 rfl ?_
    exact VE_iret (pc := 43) dX12_critical_43 rfl rfl rfl
/-- THERE, were i MISSED by q -/
def mSup (T : Nat → Nat → Int32) (n q i : Nat) : Int32 := allF (mF T n (T 0 34)) (T 12) 10 (T 16 q ||| 1 <<< (nI i &&& 31))
theorem X12_bestMissed {n pp r bb q : Nat} (ci : MI S n pp r bb) (hq : q < pp) (hb : gB G ≤ b) (hd : 6 ≤ d) : VM G mX12_bestMissed d 0 0 [.ref (b + 0), .int (nI q)] (xE (some (.int (nI (bmF (fun i => sumB (up2 S 0 2 0 4) (mSup (up2 S 0 2 0) n q i) 10 0 0) 9 1 0)))) (wH G b tbM (up2 S 0 2 0) h0)) (wH G b tbM S h0) := by
  have ciT := ci.cz (j := 2) (x := 0) (by decide)
  have h8 : pp ≤ 8 := ci.2.2.2.2.1
  refine VM_start (ls := [some (.ref (b + 0)), some (.int (nI q)), none, none]) rfl ?_
  -- %m X12_bestMissed
  have h1i : inR (nI q) 0 (nI pp - 1) = true := inR_pp (by omega) (by omega)
  refine V_aload_n (pc := 0) (i := 0) dX12_bestMissed_0 rfl rfl ?_
  refine V_iconst (pc := 1) (v := 0) dX12_bestMissed_1 (by decide) ?_
  refine VW_putI (pc := 2) dX12_bestMissed_2 fX12_139 ftX12 (fpI rfl rfl (tyX12_ok 2 (by decide))) (by first | assumption | rfl) rfl (by assumption) ?_
  generalize up2 S 0 2 0 = T at ciT ⊢
  obtain ⟨hn, h12, hg, hp, -⟩ := id ciT
  refine V_aload_n (pc := 5) (i := 0) dX12_bestMissed_5 rfl rfl ?_
  refine V_iload_n (pc := 6) (i := 1) dX12_bestMissed_6 rfl rfl ?_
  refine V_V1i (pc := 7) dX12_bestMissed_7 cX12_384 (by first | assumption | rfl) (X12_isPerson (d := 1) _ (by omega)) (Nat.le_of_ble_eq_true rfl) (by omega) (Nat.le_of_ble_eq_true rfl) ?_
  rw [hp]
  refine V_if_ne (pc := 10) 19 dX12_bestMissed_10 rfl (fun c10 => ?_) (fun c10 => ?_)
  · refine V_iconst (pc := 19) (v := 0) dX12_bestMissed_19 (by decide) ?_
    refine V_istore_n (pc := 20) (i := 2) dX12_bestMissed_20 rfl (by decide) rfl ?_
    refine V_iconst (pc := 21) (v := 1) dX12_bestMissed_21 (by decide) ?_
    refine V_istore_n (pc := 22) (i := 3) dX12_bestMissed_22 rfl (by decide) rfl ?_
    have loop : ∀ (m i z : Nat), m + i = 10 → V G mX12_bestMissed d 0 0 (xE (some (.int (nI (bmF (fun i => sumB (T 4) (mSup T n q i) 10 0 0) m i z)))) (wH G b tbM T h0)) 23 [some (.ref (b + 0)), some (.int (nI q)), some (.int (nI z)), some (.int (nI i))] [] (wH G b tbM T h0) := by
      intro m
      induction m with
      | zero =>
        intro i z hm
        refine V_iload_n (pc := 23) (i := 3) dX12_bestMissed_23 rfl rfl ?_
        refine V_bipush (pc := 24) (v := 10) dX12_bestMissed_24 (by decide) ?_
        refine V_icmp_ge (pc := 26) 76 dX12_bestMissed_26 rfl (fun c26 => ?_) (fun c26 => ?_)
        · refine V_iload_n (pc := 76) (i := 2) dX12_bestMissed_76 rfl rfl ?_
          exact VE_iret (pc := 77) dX12_bestMissed_77 rfl rfl rfl
        · exact absurd (by rw [show i = 10 by omega]; decide) c26
      | succ m ih =>
        intro i z hm
        rw [bmF]
        refine V_iload_n (pc := 23) (i := 3) dX12_bestMissed_23 rfl rfl ?_
        refine V_bipush (pc := 24) (v := 10) dX12_bestMissed_24 (by decide) ?_
        refine V_icmp_ge (pc := 26) 76 dX12_bestMissed_26 rfl (fun c26 => ?_) (fun c26 => ?_)
        · exact absurd c26 (nI_ge (b := 10) (by omega) (by decide))
        · refine V_aload_n (pc := 29) (i := 0) dX12_bestMissed_29 rfl rfl ?_
          refine V_aload_n (pc := 30) (i := 0) dX12_bestMissed_30 rfl rfl ?_
          refine V_aload_n (pc := 31) (i := 0) dX12_bestMissed_31 rfl rfl ?_
          refine VW_getR (pc := 32) dX12_bestMissed_32 fX12_80 (by first | assumption | rfl) rfl ?_
          refine V_iload_n (pc := 35) (i := 1) dX12_bestMissed_35 rfl rfl ?_
          refine VW_ialdN (pc := 36) dX12_bestMissed_36 (by first | assumption | rfl) rfl (by omega) (by first | decide | omega) ?_
          refine V_iconst (pc := 37) (v := 1) dX12_bestMissed_37 (by decide) ?_
          refine V_iload_n (pc := 38) (i := 3) dX12_bestMissed_38 rfl rfl ?_
          refine V_ishl (pc := 39) dX12_bestMissed_39 ?_
          refine V_ior (pc := 40) dX12_bestMissed_40 ?_
          refine V_V1i (pc := 41) dX12_bestMissed_41 cX12_323 (by first | assumption | rfl) (X12_come (d := 3) hn h12 hg _ (by omega)) (Nat.le_of_ble_eq_true rfl) (by omega) (Nat.le_of_ble_eq_true rfl) ?_
          refine V_V1i (pc := 44) dX12_bestMissed_44 cX12_330 (by first | assumption | rfl) (X12_worthOf (d := 1) _ (by omega)) (Nat.le_of_ble_eq_true rfl) (by omega) (Nat.le_of_ble_eq_true rfl) ?_
          refine V_aload_n (pc := 47) (i := 0) dX12_bestMissed_47 rfl rfl ?_
          refine V_aload_n (pc := 48) (i := 0) dX12_bestMissed_48 rfl rfl ?_
          refine V_aload_n (pc := 49) (i := 0) dX12_bestMissed_49 rfl rfl ?_
          refine VW_getR (pc := 50) dX12_bestMissed_50 fX12_80 (by first | assumption | rfl) rfl ?_
          refine V_iload_n (pc := 53) (i := 1) dX12_bestMissed_53 rfl rfl ?_
          refine VW_ialdN (pc := 54) dX12_bestMissed_54 (by first | assumption | rfl) rfl (by omega) (by first | decide | omega) ?_
          refine V_iconst (pc := 55) (v := 1) dX12_bestMissed_55 (by decide) ?_
          refine V_iload_n (pc := 56) (i := 2) dX12_bestMissed_56 rfl rfl ?_
          refine V_ishl (pc := 57) dX12_bestMissed_57 ?_
          refine V_ior (pc := 58) dX12_bestMissed_58 ?_
          refine V_V1i (pc := 59) dX12_bestMissed_59 cX12_323 (by first | assumption | rfl) (X12_come (d := 3) hn h12 hg _ (by omega)) (Nat.le_of_ble_eq_true rfl) (by omega) (Nat.le_of_ble_eq_true rfl) ?_
          refine V_V1i (pc := 62) dX12_bestMissed_62 cX12_330 (by first | assumption | rfl) (X12_worthOf (d := 1) _ (by omega)) (Nat.le_of_ble_eq_true rfl) (by omega) (Nat.le_of_ble_eq_true rfl) ?_
          refine V_icmp_le (pc := 65) 70 dX12_bestMissed_65 rfl (fun c65 => ?_) (fun c65 => ?_)
          · rw [if_neg (show ¬ sumB (T 4) (mSup T n q z) 10 0 0 < sumB (T 4) (mSup T n q i) 10 0 0 from Int32.not_lt.mpr c65)]
            refine V_iinc (pc := 70) dX12_bestMissed_70 (by decide) rfl rfl (iincN (n := 1) (by decide)) ?_
            refine V_goto (pc := 73) 23 dX12_bestMissed_73 rfl ?_
            exact ih (i + 1) _ (by omega)
          · rw [if_pos (show sumB (T 4) (mSup T n q z) 10 0 0 < sumB (T 4) (mSup T n q i) 10 0 0 from Int32.not_le.mp c65)]
            refine V_iload_n (pc := 68) (i := 3) dX12_bestMissed_68 rfl rfl ?_
            refine V_istore_n (pc := 69) (i := 2) dX12_bestMissed_69 rfl (by decide) rfl ?_
            refine V_iinc (pc := 70) dX12_bestMissed_70 (by decide) rfl rfl (iincN (n := 1) (by decide)) ?_
            refine V_goto (pc := 73) 23 dX12_bestMissed_73 rfl ?_
            exact ih (i + 1) _ (by omega)
    exact loop 9 1 0 rfl
  · rw [h1i] at c10; exact absurd c10 (by decide)
theorem X12_common {n pp r bb q o : Nat} (ci : MI S n pp r bb) (hq : q < pp) (ho : o < pp) (hb : gB G ≤ b) (hd : 6 ≤ d) : VM G mX12_common d 0 0 [.ref (b + 0), .int (nI q), .int (nI o)] (xE (some (.int (mThere (up2 S 0 2 0) n q &&& mThere (up2 S 0 2 0) n o))) (wH G b tbM (up2 S 0 2 0) h0)) (wH G b tbM S h0) := by
  have ciT := ci.cz (j := 2) (x := 0) (by decide)
  have h8 : pp ≤ 8 := ci.2.2.2.2.1
  refine VM_start (ls := [some (.ref (b + 0)), some (.int (nI q)), some (.int (nI o))]) rfl ?_
  -- %m X12_common
  have h1i : inR (nI q) 0 (nI pp - 1) = true := inR_pp (by omega) (by omega)
  have h2i : inR (nI o) 0 (nI pp - 1) = true := inR_pp (by omega) (by omega)
  refine V_aload_n (pc := 0) (i := 0) dX12_common_0 rfl rfl ?_
  refine V_iconst (pc := 1) (v := 0) dX12_common_1 (by decide) ?_
  refine VW_putI (pc := 2) dX12_common_2 fX12_139 ftX12 (fpI rfl rfl (tyX12_ok 2 (by decide))) (by first | assumption | rfl) rfl (by assumption) ?_
  generalize up2 S 0 2 0 = T at ciT ⊢
  obtain ⟨hn, h12, hg, hp, -⟩ := id ciT
  refine V_aload_n (pc := 5) (i := 0) dX12_common_5 rfl rfl ?_
  refine V_iload_n (pc := 6) (i := 1) dX12_common_6 rfl rfl ?_
  refine V_V1i (pc := 7) dX12_common_7 cX12_384 (by first | assumption | rfl) (X12_isPerson (d := 1) _ (by omega)) (Nat.le_of_ble_eq_true rfl) (by omega) (Nat.le_of_ble_eq_true rfl) ?_
  rw [hp]
  refine V_if_eq (pc := 10) 35 dX12_common_10 rfl (fun c10 => ?_) (fun c10 => ?_)
  · rw [h1i] at c10; exact absurd c10 (by decide)
  · refine V_aload_n (pc := 13) (i := 0) dX12_common_13 rfl rfl ?_
    refine V_iload_n (pc := 14) (i := 2) dX12_common_14 rfl rfl ?_
    refine V_V1i (pc := 15) dX12_common_15 cX12_384 (by first | assumption | rfl) (X12_isPerson (d := 1) _ (by omega)) (Nat.le_of_ble_eq_true rfl) (by omega) (Nat.le_of_ble_eq_true rfl) ?_
    rw [hp]
    refine V_if_eq (pc := 18) 35 dX12_common_18 rfl (fun c18 => ?_) (fun c18 => ?_)
    · rw [h2i] at c18; exact absurd c18 (by decide)
    · refine V_aload_n (pc := 21) (i := 0) dX12_common_21 rfl rfl ?_
      refine V_iload_n (pc := 22) (i := 1) dX12_common_22 rfl rfl ?_
      refine V_V1i (pc := 23) dX12_common_23 cX12_333 (by first | assumption | rfl) (X12_thereOf (d := 4) hn h12 hg (by omega) (by omega)) (Nat.le_of_ble_eq_true rfl) (by omega) (Nat.le_of_ble_eq_true rfl) ?_
      refine V_aload_n (pc := 26) (i := 0) dX12_common_26 rfl rfl ?_
      refine V_iload_n (pc := 27) (i := 2) dX12_common_27 rfl rfl ?_
      refine V_V1i (pc := 28) dX12_common_28 cX12_333 (by first | assumption | rfl) (X12_thereOf (d := 4) hn h12 hg (by omega) (by omega)) (Nat.le_of_ble_eq_true rfl) (by omega) (Nat.le_of_ble_eq_true rfl) ?_
      refine V_iand (pc := 31) dX12_common_31 ?_
      refine V_goto (pc := 32) 40 dX12_common_32 rfl ?_
      exact VE_iret (pc := 40) dX12_common_40 rfl rfl rfl
theorem X12_apart {n pp r bb q o : Nat} (ci : MI S n pp r bb) (po : PO S pp) (hq : q < pp) (ho : o < pp) (hb : gB G ≤ b) (hd : 6 ≤ d) : VM G mX12_apart d 0 0 [.ref (b + 0), .int (nI q), .int (nI o)] (xE (some (.int (bcI (mThere (up2 S 0 2 0) n q ^^^ mThere (up2 S 0 2 0) n o)))) (wH G b tbM (up2 S 0 2 0) h0)) (wH G b tbM S h0) := by
  have ciT := ci.cz (j := 2) (x := 0) (by decide)
  have poT := po.cz (j := 2) (x := 0)
  have h8 : pp ≤ 8 := ci.2.2.2.2.1
  refine VM_start (ls := [some (.ref (b + 0)), some (.int (nI q)), some (.int (nI o))]) rfl ?_
  -- %m X12_apart
  have h1i : inR (nI q) 0 (nI pp - 1) = true := inR_pp (by omega) (by omega)
  have h2i : inR (nI o) 0 (nI pp - 1) = true := inR_pp (by omega) (by omega)
  refine V_aload_n (pc := 0) (i := 0) dX12_apart_0 rfl rfl ?_
  refine V_iconst (pc := 1) (v := 0) dX12_apart_1 (by decide) ?_
  refine VW_putI (pc := 2) dX12_apart_2 fX12_139 ftX12 (fpI rfl rfl (tyX12_ok 2 (by decide))) (by first | assumption | rfl) rfl (by assumption) ?_
  generalize up2 S 0 2 0 = T at ciT poT ⊢
  obtain ⟨hn, h12, hg, hp, -⟩ := id ciT
  obtain ⟨c, hc, ec⟩ := mThere_in h12 hg poT hq
  obtain ⟨e, he, ee⟩ := mThere_in h12 hg poT ho
  refine V_aload_n (pc := 5) (i := 0) dX12_apart_5 rfl rfl ?_
  refine V_iload_n (pc := 6) (i := 1) dX12_apart_6 rfl rfl ?_
  refine V_V1i (pc := 7) dX12_apart_7 cX12_384 (by first | assumption | rfl) (X12_isPerson (d := 1) _ (by omega)) (Nat.le_of_ble_eq_true rfl) (by omega) (Nat.le_of_ble_eq_true rfl) ?_
  rw [hp]
  refine V_if_eq (pc := 10) 38 dX12_apart_10 rfl (fun c10 => ?_) (fun c10 => ?_)
  · rw [h1i] at c10; exact absurd c10 (by decide)
  · refine V_aload_n (pc := 13) (i := 0) dX12_apart_13 rfl rfl ?_
    refine V_iload_n (pc := 14) (i := 2) dX12_apart_14 rfl rfl ?_
    refine V_V1i (pc := 15) dX12_apart_15 cX12_384 (by first | assumption | rfl) (X12_isPerson (d := 1) _ (by omega)) (Nat.le_of_ble_eq_true rfl) (by omega) (Nat.le_of_ble_eq_true rfl) ?_
    rw [hp]
    refine V_if_eq (pc := 18) 38 dX12_apart_18 rfl (fun c18 => ?_) (fun c18 => ?_)
    · rw [h2i] at c18; exact absurd c18 (by decide)
    · refine V_aload_n (pc := 21) (i := 0) dX12_apart_21 rfl rfl ?_
      refine V_iload_n (pc := 22) (i := 1) dX12_apart_22 rfl rfl ?_
      refine V_V1i (pc := 23) dX12_apart_23 cX12_333 (by first | assumption | rfl) (X12_thereOf (d := 4) hn h12 hg (by omega) (by omega)) (Nat.le_of_ble_eq_true rfl) (by omega) (Nat.le_of_ble_eq_true rfl) ?_
      refine V_aload_n (pc := 26) (i := 0) dX12_apart_26 rfl rfl ?_
      refine V_iload_n (pc := 27) (i := 2) dX12_apart_27 rfl rfl ?_
      refine V_V1i (pc := 28) dX12_apart_28 cX12_333 (by first | assumption | rfl) (X12_thereOf (d := 4) hn h12 hg (by omega) (by omega)) (Nat.le_of_ble_eq_true rfl) (by omega) (Nat.le_of_ble_eq_true rfl) ?_
      refine V_ixor (pc := 31) dX12_apart_31 ?_
      refine V_S1i (pc := 32) dX12_apart_32 cX12_357 (X12_bitsE (d := 0) (k := c ^^^ e) (by rw [ec, ee, nx_xor]) (Nat.lt_trans (Nat.xor_lt_two_pow (n := 10) hc he) (by decide))) (Nat.le_of_ble_eq_true rfl) (by omega) (Nat.le_of_ble_eq_true rfl) ?_
      refine V_goto (pc := 35) 43 dX12_apart_35 rfl ?_
      exact VE_iret (pc := 43) dX12_apart_43 rfl rfl rfl
def andN (f : Nat → Int32) : Nat → Nat → Int32 → Int32
  | 0, _, x => x
  | m + 1, i, x => andN f m (i + 1) (x &&& (f i ^^^ -1))
theorem X12_unhad {n pp r bb : Nat} (ci : MI S n pp r bb) (hb : gB G ≤ b) (hd : 6 ≤ d) : VM G mX12_unhad d 0 0 [.ref (b + 0)] (xE (some (.int (andN (mThere (up2 S 0 2 0) n) pp 0 1023))) (wH G b tbM (up2 S 0 2 0) h0)) (wH G b tbM S h0) := by
  have ciT := ci.cz (j := 2) (x := 0) (by decide)
  have h8 : pp ≤ 8 := ci.2.2.2.2.1
  refine VM_start (ls := [some (.ref (b + 0)), none, none]) rfl ?_
  -- %m X12_unhad
  refine V_aload_n (pc := 0) (i := 0) dX12_unhad_0 rfl rfl ?_
  refine V_iconst (pc := 1) (v := 0) dX12_unhad_1 (by decide) ?_
  refine VW_putI (pc := 2) dX12_unhad_2 fX12_139 ftX12 (fpI rfl rfl (tyX12_ok 2 (by decide))) (by first | assumption | rfl) rfl (by assumption) ?_
  generalize up2 S 0 2 0 = T at ciT ⊢
  obtain ⟨hn, h12, hg, hp, -⟩ := id ciT
  refine V_sipush (pc := 5) (v := 1023) dX12_unhad_5 (by decide) ?_
  refine V_istore_n (pc := 8) (i := 1) dX12_unhad_8 rfl (by decide) rfl ?_
  refine V_iconst (pc := 9) (v := 0) dX12_unhad_9 (by decide) ?_
  refine V_istore_n (pc := 10) (i := 2) dX12_unhad_10 rfl (by decide) rfl ?_
  have loop : ∀ (m i : Nat) (x : Int32), m + i = pp → V G mX12_unhad d 0 0 (xE (some (.int (andN (mThere T n) m i x))) (wH G b tbM T h0)) 11 [some (.ref (b + 0)), some (.int x), some (.int (nI i))] [] (wH G b tbM T h0) := by
    intro m
    induction m with
    | zero =>
      intro i x hm
      refine V_iload_n (pc := 11) (i := 2) dX12_unhad_11 rfl rfl ?_
      refine V_aload_n (pc := 12) (i := 0) dX12_unhad_12 rfl rfl ?_
      refine VW_getR (pc := 13) dX12_unhad_13 fX12_36 (by first | assumption | rfl) rfl ?_
      refine V_iconst (pc := 16) (v := 0) dX12_unhad_16 (by decide) ?_
      refine VW_ialdN (pc := 17) dX12_unhad_17 (by first | assumption | rfl) (j := 0) rfl (by decide) (by first | decide | omega) ?_
      refine V_icmp_ge (pc := 18) 37 dX12_unhad_18 rfl (fun c18 => ?_) (fun c18 => ?_)
      · refine V_iload_n (pc := 37) (i := 1) dX12_unhad_37 rfl rfl ?_
        exact VE_iret (pc := 38) dX12_unhad_38 rfl rfl rfl
      · exact absurd (by rw [hp, show i = pp by omega]; exact nI_le (by omega) (by omega)) c18
    | succ m ih =>
      intro i x hm
      rw [andN]
      refine V_iload_n (pc := 11) (i := 2) dX12_unhad_11 rfl rfl ?_
      refine V_aload_n (pc := 12) (i := 0) dX12_unhad_12 rfl rfl ?_
      refine VW_getR (pc := 13) dX12_unhad_13 fX12_36 (by first | assumption | rfl) rfl ?_
      refine V_iconst (pc := 16) (v := 0) dX12_unhad_16 (by decide) ?_
      refine VW_ialdN (pc := 17) dX12_unhad_17 (by first | assumption | rfl) (j := 0) rfl (by decide) (by first | decide | omega) ?_
      refine V_icmp_ge (pc := 18) 37 dX12_unhad_18 rfl (fun c18 => ?_) (fun c18 => ?_)
      · exact absurd c18 (by rw [hp]; exact nI_ge (by omega) (by omega))
      · refine V_iload_n (pc := 21) (i := 1) dX12_unhad_21 rfl rfl ?_
        refine V_aload_n (pc := 22) (i := 0) dX12_unhad_22 rfl rfl ?_
        refine V_iload_n (pc := 23) (i := 2) dX12_unhad_23 rfl rfl ?_
        refine V_V1i (pc := 24) dX12_unhad_24 cX12_333 (by first | assumption | rfl) (X12_thereOf (d := 4) hn h12 hg (by omega) (by omega)) (Nat.le_of_ble_eq_true rfl) (by omega) (Nat.le_of_ble_eq_true rfl) ?_
        refine V_iconst (pc := 27) (v := -1) dX12_unhad_27 (by decide) ?_
        refine V_ixor (pc := 28) dX12_unhad_28 ?_
        refine V_iand (pc := 29) dX12_unhad_29 ?_
        refine V_istore_n (pc := 30) (i := 1) dX12_unhad_30 rfl (by decide) rfl ?_
        refine V_iinc (pc := 31) dX12_unhad_31 (by decide) rfl rfl (iincN (n := 1) (by decide)) ?_
        refine V_goto (pc := 34) 11 dX12_unhad_34 rfl ?_
        exact ih (i + 1) _ (by omega)
  exact loop pp 0 _ rfl
def gnM (T : Nat → Nat → Int32) (n p o : Nat) (go ot : Int32) : Int32 := gn go ot (sumB (T 4) (mThere T n p) 10 0 0 - sumB (T 4) (T 16 p) 10 0 0) (bcI (mThere T n p &&& mThere T n o))
theorem X12_gain {n pp r bb p o : Nat} (ci : MI T n pp r bb) (po : PO T pp) (hp' : p < pp) (ho : o < pp) (go ot : Int32) (hb : gB G ≤ b) (hd : 5 ≤ d) : VM G mX12_gain d 0 0 [.ref (b + 0), .int (nI p), .int (nI o), .int go, .int ot] (xE (some (.int (gnM T n p o go ot))) (wH G b tbM T h0)) (wH G b tbM T h0) := by
  obtain ⟨hn, h12, hg, hp, h8, -⟩ := id ci
  obtain ⟨c, hc, ec⟩ := mThere_in h12 hg po hp'
  obtain ⟨e, he, ee⟩ := and_in (a := c) (mThere T n o)
  refine VM_start (ls := [some (.ref (b + 0)), some (.int (nI p)), some (.int (nI o)), some (.int go), some (.int ot), none]) rfl ?_
  unfold gnM gn
  -- %m X12_gain
  refine V_iload_n (pc := 0) (i := 3) dX12_gain_0 rfl rfl ?_
  refine V_if_ne (pc := 1) 6 dX12_gain_1 rfl (fun c1 => ?_) (fun c1 => ?_)
  · rw [if_neg c1]
    refine V_aload_n (pc := 6) (i := 0) dX12_gain_6 rfl rfl ?_
    refine V_aload_n (pc := 7) (i := 0) dX12_gain_7 rfl rfl ?_
    refine V_iload_n (pc := 8) (i := 1) dX12_gain_8 rfl rfl ?_
    refine V_V1i (pc := 9) dX12_gain_9 cX12_333 (by first | assumption | rfl) (X12_thereOf (d := 4) hn h12 hg (by omega) (by omega)) (Nat.le_of_ble_eq_true rfl) (by omega) (Nat.le_of_ble_eq_true rfl) ?_
    refine V_V1i (pc := 12) dX12_gain_12 cX12_330 (by first | assumption | rfl) (X12_worthOf (d := 1) _ (by omega)) (Nat.le_of_ble_eq_true rfl) (by omega) (Nat.le_of_ble_eq_true rfl) ?_
    refine V_aload_n (pc := 15) (i := 0) dX12_gain_15 rfl rfl ?_
    refine V_aload_n (pc := 16) (i := 0) dX12_gain_16 rfl rfl ?_
    refine VW_getR (pc := 17) dX12_gain_17 fX12_80 (by first | assumption | rfl) rfl ?_
    refine V_iload_n (pc := 20) (i := 1) dX12_gain_20 rfl rfl ?_
    refine VW_ialdN (pc := 21) dX12_gain_21 (by first | assumption | rfl) rfl (by omega) (by first | decide | omega) ?_
    refine V_V1i (pc := 22) dX12_gain_22 cX12_330 (by first | assumption | rfl) (X12_worthOf (d := 1) _ (by omega)) (Nat.le_of_ble_eq_true rfl) (by omega) (Nat.le_of_ble_eq_true rfl) ?_
    refine V_isub (pc := 25) dX12_gain_25 ?_
    refine V_istore (pc := 26) dX12_gain_26 (by decide) rfl ?_
    refine V_iload (pc := 28) dX12_gain_28 rfl ?_
    refine V_if_ne (pc := 30) 38 dX12_gain_30 rfl (fun c30 => ?_) (fun c30 => ?_)
    · rw [if_neg c30]
      refine V_iload (pc := 38) dX12_gain_38 rfl ?_
      refine V_iconst (pc := 40) (v := 2) dX12_gain_40 (by decide) ?_
      refine V_idiv (pc := 41) dX12_gain_41 (by decide) ?_
      refine V_iconst (pc := 42) (v := 2) dX12_gain_42 (by decide) ?_
      refine V_aload_n (pc := 43) (i := 0) dX12_gain_43 rfl rfl ?_
      refine V_iload_n (pc := 44) (i := 1) dX12_gain_44 rfl rfl ?_
      refine V_V1i (pc := 45) dX12_gain_45 cX12_333 (by first | assumption | rfl) (X12_thereOf (d := 4) hn h12 hg (by omega) (by omega)) (Nat.le_of_ble_eq_true rfl) (by omega) (Nat.le_of_ble_eq_true rfl) ?_
      refine V_aload_n (pc := 48) (i := 0) dX12_gain_48 rfl rfl ?_
      refine V_iload_n (pc := 49) (i := 2) dX12_gain_49 rfl rfl ?_
      refine V_V1i (pc := 50) dX12_gain_50 cX12_333 (by first | assumption | rfl) (X12_thereOf (d := 4) hn h12 hg (by omega) (by omega)) (Nat.le_of_ble_eq_true rfl) (by omega) (Nat.le_of_ble_eq_true rfl) ?_
      refine V_iand (pc := 53) dX12_gain_53 ?_
      refine V_S1i (pc := 54) dX12_gain_54 cX12_357 (X12_bitsE (d := 0) (k := e) (by rw [ec]; exact ee) (by omega)) (Nat.le_of_ble_eq_true rfl) (by omega) (Nat.le_of_ble_eq_true rfl) ?_
      refine V_imul (pc := 57) dX12_gain_57 ?_
      refine V_iadd (pc := 58) dX12_gain_58 ?_
      exact VE_iret (pc := 59) dX12_gain_59 rfl rfl rfl
    · rw [if_pos c30]
      refine V_iload (pc := 33) dX12_gain_33 rfl ?_
      refine V_goto (pc := 35) 59 dX12_gain_35 rfl ?_
      exact VE_iret (pc := 59) dX12_gain_59 rfl rfl rfl
  · rw [if_pos c1]
    refine V_iconst (pc := 4) (v := 1) dX12_gain_4 (by decide) ?_
    exact VE_iret (pc := 5) dX12_gain_5 rfl rfl rfl
def gamM (C : Nat → Bool) (f : Nat → Int32) : Nat → Nat → Int32 → Int32 → Int32 × Int32
  | 0, _, x, y => (x, y)
  | m + 1, i, x, y => if C i then gamM C f m (i + 1) (x + 1) (if y = -1 then f i else y) else gamM C f m (i + 1) x y
def gamCM (T : Nat → Nat → Int32) (n q o i : Nat) : Bool := !decide (gnM T n q o (nI (i / 2)) (nI (i % 2)) < gnM T n q o (1 - nI (i / 2)) (nI (i % 2))) && !decide (gnM T n o q (nI (i % 2)) (nI (i / 2)) < gnM T n o q (1 - nI (i % 2)) (nI (i / 2)))
theorem X12_game {n pp r bb q o v : Nat} (ci : MI S n pp r bb) (po : PO S pp) (hq : q < pp) (ho : o < pp) (hv : v ≤ 1) (hne : q ≠ o) (hb : gB G ≤ b) (hd : 6 ≤ d) : VM G mX12_game d 0 0 [.ref (b + 0), .int (nI q), .int (nI o), .int (nI v)] (xE (some (.int (if nI v = 0 then (gamM (gamCM (up2 S 0 2 0) n q o) (fun i => 10 * nI (i / 2) + nI (i % 2)) 4 0 0 (-1)).1 else (gamM (gamCM (up2 S 0 2 0) n q o) (fun i => 10 * nI (i / 2) + nI (i % 2)) 4 0 0 (-1)).2))) (wH G b tbM (up2 S 0 2 0) h0)) (wH G b tbM S h0) := by
  have ciT := ci.cz (j := 2) (x := 0) (by decide)
  have poT := po.cz (j := 2) (x := 0)
  have h8 : pp ≤ 8 := ci.2.2.2.2.1
  refine VM_start (ls := [some (.ref (b + 0)), some (.int (nI q)), some (.int (nI o)), some (.int (nI v)), none, none, none, none, none]) rfl ?_
  -- %m X12_game
  have h1i : inR (nI q) 0 (nI pp - 1) = true := inR_pp (by omega) (by omega)
  have h2i : inR (nI o) 0 (nI pp - 1) = true := inR_pp (by omega) (by omega)
  refine V_aload_n (pc := 0) (i := 0) dX12_game_0 rfl rfl ?_
  refine V_iconst (pc := 1) (v := 0) dX12_game_1 (by decide) ?_
  refine VW_putI (pc := 2) dX12_game_2 fX12_139 ftX12 (fpI rfl rfl (tyX12_ok 2 (by decide))) (by first | assumption | rfl) rfl (by assumption) ?_
  generalize up2 S 0 2 0 = T at ciT poT ⊢
  obtain ⟨hn, h12, hg, hp, -⟩ := id ciT
  refine V_aload_n (pc := 5) (i := 0) dX12_game_5 rfl rfl ?_
  refine V_iload_n (pc := 6) (i := 1) dX12_game_6 rfl rfl ?_
  refine V_V1i (pc := 7) dX12_game_7 cX12_384 (by first | assumption | rfl) (X12_isPerson (d := 1) _ (by omega)) (Nat.le_of_ble_eq_true rfl) (by omega) (Nat.le_of_ble_eq_true rfl) ?_
  rw [hp]
  refine V_if_eq (pc := 10) 30 dX12_game_10 rfl (fun c10 => ?_) (fun c10 => ?_)
  · rw [h1i] at c10; exact absurd c10 (by decide)
  · refine V_aload_n (pc := 13) (i := 0) dX12_game_13 rfl rfl ?_
    refine V_iload_n (pc := 14) (i := 2) dX12_game_14 rfl rfl ?_
    refine V_V1i (pc := 15) dX12_game_15 cX12_384 (by first | assumption | rfl) (X12_isPerson (d := 1) _ (by omega)) (Nat.le_of_ble_eq_true rfl) (by omega) (Nat.le_of_ble_eq_true rfl) ?_
    rw [hp]
    refine V_if_eq (pc := 18) 30 dX12_game_18 rfl (fun c18 => ?_) (fun c18 => ?_)
    · rw [h2i] at c18; exact absurd c18 (by decide)
    · refine V_iload_n (pc := 21) (i := 3) dX12_game_21 rfl rfl ?_
      refine V_if_lt (pc := 22) 30 dX12_game_22 rfl (fun c22 => ?_) (fun c22 => ?_)
      · exact absurd c22 (nI_pos (by omega))
      · refine V_iload_n (pc := 25) (i := 3) dX12_game_25 rfl rfl ?_
        refine V_iconst (pc := 26) (v := 1) dX12_game_26 (by decide) ?_
        refine V_icmp_le (pc := 27) 36 dX12_game_27 rfl (fun c27 => ?_) (fun c27 => ?_)
        · refine V_iload_n (pc := 36) (i := 1) dX12_game_36 rfl rfl ?_
          refine V_iload_n (pc := 37) (i := 2) dX12_game_37 rfl rfl ?_
          refine V_icmp_ne (pc := 38) 47 dX12_game_38 rfl (fun c38 => ?_) (fun c38 => ?_)
          · refine V_iconst (pc := 47) (v := 0) dX12_game_47 (by decide) ?_
            refine V_istore (pc := 48) dX12_game_48 (by decide) rfl ?_
            refine V_iconst (pc := 50) (v := -1) dX12_game_50 (by decide) ?_
            refine V_istore (pc := 51) dX12_game_51 (by decide) rfl ?_
            refine V_iconst (pc := 53) (v := 0) dX12_game_53 (by decide) ?_
            refine V_istore (pc := 54) dX12_game_54 (by decide) rfl ?_
            have loop : ∀ (m i : Nat) (x y : Int32), m + i = 4 → V G mX12_game d 0 0 (xE (some (.int (if nI v = 0 then (gamM (gamCM T n q o) (fun i => 10 * nI (i / 2) + nI (i % 2)) m i x y).1 else (gamM (gamCM T n q o) (fun i => 10 * nI (i / 2) + nI (i % 2)) m i x y).2))) (wH G b tbM T h0)) 56 [some (.ref (b + 0)), some (.int (nI q)), some (.int (nI o)), some (.int (nI v)), some (.int x), some (.int y), some (.int (nI i)), none, none] [] (wH G b tbM T h0) := by
              intro m
              induction m with
              | zero =>
                intro i x y hm
                refine V_iload (pc := 56) dX12_game_56 rfl ?_
                refine V_iconst (pc := 58) (v := 4) dX12_game_58 (by decide) ?_
                refine V_icmp_ge (pc := 59) 157 dX12_game_59 rfl (fun c59 => ?_) (fun c59 => ?_)
                · refine V_iload_n (pc := 157) (i := 3) dX12_game_157 rfl rfl ?_
                  refine V_if_ne (pc := 158) 166 dX12_game_158 rfl (fun c158 => ?_) (fun c158 => ?_)
                  · rw [if_neg c158]
                    refine V_iload (pc := 166) dX12_game_166 rfl ?_
                    exact VE_iret (pc := 168) dX12_game_168 rfl rfl rfl
                  · rw [if_pos c158]
                    refine V_iload (pc := 161) dX12_game_161 rfl ?_
                    refine V_goto (pc := 163) 168 dX12_game_163 rfl ?_
                    exact VE_iret (pc := 168) dX12_game_168 rfl rfl rfl
                · exact absurd (by rw [show i = 4 by omega]; decide) c59
              | succ m ih =>
                intro i x y hm
                rw [gamM]
                refine V_iload (pc := 56) dX12_game_56 rfl ?_
                refine V_iconst (pc := 58) (v := 4) dX12_game_58 (by decide) ?_
                refine V_icmp_ge (pc := 59) 157 dX12_game_59 rfl (fun c59 => ?_) (fun c59 => ?_)
                · exact absurd c59 (nI_ge (b := 4) (by omega) (by decide))
                · refine V_iload (pc := 62) dX12_game_62 rfl ?_
                  refine V_iconst (pc := 64) (v := 2) dX12_game_64 (by decide) ?_
                  refine V_idiv (pc := 65) dX12_game_65 (by decide) ?_
                  rw [show nI i / 2 = nI (i / 2) from pk_div (d := 2) (by omega) (by decide) (by decide)]
                  refine V_istore (pc := 66) dX12_game_66 (by decide) rfl ?_
                  refine V_iload (pc := 68) dX12_game_68 rfl ?_
                  refine V_iconst (pc := 70) (v := 2) dX12_game_70 (by decide) ?_
                  refine V_irem (pc := 71) dX12_game_71 (by decide) ?_
                  rw [show nI i - nI i / 2 * 2 = nI (i % 2) from pk_rem (d := 2) (by omega) (by decide) (by decide)]
                  refine V_istore (pc := 72) dX12_game_72 (by decide) rfl ?_
                  refine V_aload_n (pc := 74) (i := 0) dX12_game_74 rfl rfl ?_
                  refine V_iload_n (pc := 75) (i := 1) dX12_game_75 rfl rfl ?_
                  refine V_iload_n (pc := 76) (i := 2) dX12_game_76 rfl rfl ?_
                  refine V_iconst (pc := 77) (v := 1) dX12_game_77 (by decide) ?_
                  refine V_iload (pc := 78) dX12_game_78 rfl ?_
                  refine V_isub (pc := 80) dX12_game_80 ?_
                  refine V_iload (pc := 81) dX12_game_81 rfl ?_
                  refine V_V4i (pc := 83) dX12_game_83 cX12_429 (by first | assumption | rfl) (X12_gain (d := 5) ciT poT hq ho _ _ hb (by omega)) (Nat.le_of_ble_eq_true rfl) (by omega) (Nat.le_of_ble_eq_true rfl) ?_
                  refine V_aload_n (pc := 86) (i := 0) dX12_game_86 rfl rfl ?_
                  refine V_iload_n (pc := 87) (i := 1) dX12_game_87 rfl rfl ?_
                  refine V_iload_n (pc := 88) (i := 2) dX12_game_88 rfl rfl ?_
                  refine V_iload (pc := 89) dX12_game_89 rfl ?_
                  refine V_iload (pc := 91) dX12_game_91 rfl ?_
                  refine V_V4i (pc := 93) dX12_game_93 cX12_429 (by first | assumption | rfl) (X12_gain (d := 5) ciT poT hq ho _ _ hb (by omega)) (Nat.le_of_ble_eq_true rfl) (by omega) (Nat.le_of_ble_eq_true rfl) ?_
                  refine V_icmp_gt (pc := 96) 151 dX12_game_96 rfl (fun c96 => ?_) (fun c96 => ?_)
                  · rw [if_neg (show ¬ gamCM T n q o i = true from by unfold gamCM; rw [decide_eq_true c96, Bool.not_true, Bool.false_and]; decide)]
                    refine V_iinc (pc := 151) dX12_game_151 (by decide) rfl rfl (iincN (n := 1) (by decide)) ?_
                    refine V_goto (pc := 154) 56 dX12_game_154 rfl ?_
                    exact V_forget 7 (V_forget 8 (ih (i + 1) _ _ (by omega)))
                  · refine V_aload_n (pc := 99) (i := 0) dX12_game_99 rfl rfl ?_
                    refine V_iload_n (pc := 100) (i := 2) dX12_game_100 rfl rfl ?_
                    refine V_iload_n (pc := 101) (i := 1) dX12_game_101 rfl rfl ?_
                    refine V_iconst (pc := 102) (v := 1) dX12_game_102 (by decide) ?_
                    refine V_iload (pc := 103) dX12_game_103 rfl ?_
                    refine V_isub (pc := 105) dX12_game_105 ?_
                    refine V_iload (pc := 106) dX12_game_106 rfl ?_
                    refine V_V4i (pc := 108) dX12_game_108 cX12_429 (by first | assumption | rfl) (X12_gain (d := 5) ciT poT ho hq _ _ hb (by omega)) (Nat.le_of_ble_eq_true rfl) (by omega) (Nat.le_of_ble_eq_true rfl) ?_
                    refine V_aload_n (pc := 111) (i := 0) dX12_game_111 rfl rfl ?_
                    refine V_iload_n (pc := 112) (i := 2) dX12_game_112 rfl rfl ?_
                    refine V_iload_n (pc := 113) (i := 1) dX12_game_113 rfl rfl ?_
                    refine V_iload (pc := 114) dX12_game_114 rfl ?_
                    refine V_iload (pc := 116) dX12_game_116 rfl ?_
                    refine V_V4i (pc := 118) dX12_game_118 cX12_429 (by first | assumption | rfl) (X12_gain (d := 5) ciT poT ho hq _ _ hb (by omega)) (Nat.le_of_ble_eq_true rfl) (by omega) (Nat.le_of_ble_eq_true rfl) ?_
                    refine V_icmp_le (pc := 121) 127 dX12_game_121 rfl (fun c121 => ?_) (fun c121 => ?_)
                    · rw [if_pos (show gamCM T n q o i = true from by unfold gamCM; rw [decide_eq_false c96, decide_eq_false (Int32.not_lt.mpr c121)]; rfl)]
                      refine V_iinc (pc := 127) dX12_game_127 (by decide) rfl rfl rfl ?_
                      refine V_iload (pc := 130) dX12_game_130 rfl ?_
                      refine V_iconst (pc := 132) (v := -1) dX12_game_132 (by decide) ?_
                      refine V_icmp_ne (pc := 133) 147 dX12_game_133 rfl (fun c133 => ?_) (fun c133 => ?_)
                      · rw [if_neg c133]
                        refine V_iload (pc := 147) dX12_game_147 rfl ?_
                        refine V_istore (pc := 149) dX12_game_149 (by decide) rfl ?_
                        refine V_iinc (pc := 151) dX12_game_151 (by decide) rfl rfl (iincN (n := 1) (by decide)) ?_
                        refine V_goto (pc := 154) 56 dX12_game_154 rfl ?_
                        exact V_forget 7 (V_forget 8 (ih (i + 1) _ _ (by omega)))
                      · rw [if_pos c133]
                        refine V_bipush (pc := 136) (v := 10) dX12_game_136 (by decide) ?_
                        refine V_iload (pc := 138) dX12_game_138 rfl ?_
                        refine V_imul (pc := 140) dX12_game_140 ?_
                        refine V_iload (pc := 141) dX12_game_141 rfl ?_
                        refine V_iadd (pc := 143) dX12_game_143 ?_
                        refine V_goto (pc := 144) 149 dX12_game_144 rfl ?_
                        refine V_istore (pc := 149) dX12_game_149 (by decide) rfl ?_
                        refine V_iinc (pc := 151) dX12_game_151 (by decide) rfl rfl (iincN (n := 1) (by decide)) ?_
                        refine V_goto (pc := 154) 56 dX12_game_154 rfl ?_
                        exact V_forget 7 (V_forget 8 (ih (i + 1) _ _ (by omega)))
                    · rw [if_neg (show ¬ gamCM T n q o i = true from by unfold gamCM; rw [decide_eq_true (Int32.not_le.mp c121), Bool.not_true, Bool.and_false]; decide)]
                      refine V_goto (pc := 124) 151 dX12_game_124 rfl ?_
                      refine V_iinc (pc := 151) dX12_game_151 (by decide) rfl rfl (iincN (n := 1) (by decide)) ?_
                      refine V_goto (pc := 154) 56 dX12_game_154 rfl ?_
                      exact V_forget 7 (V_forget 8 (ih (i + 1) _ _ (by omega)))
            exact loop 4 0 0 _ rfl
          · exact absurd ((nI_eq (by omega) (by omega)).mp c38) hne
        · exact absurd (nI_le (b := 1) (by omega) (by decide)) c27
theorem X12_game_same {n pp r bb q v : Nat} (ci : MI S n pp r bb) (hq : q < pp) (hv : v ≤ 1) (hb : gB G ≤ b) (hd : 6 ≤ d) : VM G mX12_game d 0 0 [.ref (b + 0), .int (nI q), .int (nI q), .int (nI v)] (xE (some (.int 0)) (wH G b tbM (up2 (up2 S 0 2 0) 0 2 2) h0)) (wH G b tbM S h0) := by
  have ciT := ci.cz (j := 2) (x := 0) (by decide)
  have h8 : pp ≤ 8 := ci.2.2.2.2.1
  refine VM_start (ls := [some (.ref (b + 0)), some (.int (nI q)), some (.int (nI q)), some (.int (nI v)), none, none, none, none, none]) rfl ?_
  -- %m X12_game
  have h1i : inR (nI q) 0 (nI pp - 1) = true := inR_pp (by omega) (by omega)
  have h2i : inR (nI q) 0 (nI pp - 1) = true := inR_pp (by omega) (by omega)
  refine V_aload_n (pc := 0) (i := 0) dX12_game_0 rfl rfl ?_
  refine V_iconst (pc := 1) (v := 0) dX12_game_1 (by decide) ?_
  refine VW_putI (pc := 2) dX12_game_2 fX12_139 ftX12 (fpI rfl rfl (tyX12_ok 2 (by decide))) (by first | assumption | rfl) rfl (by assumption) ?_
  generalize up2 S 0 2 0 = T at ciT ⊢
  obtain ⟨hn, h12, hg, hp, -⟩ := id ciT
  refine V_aload_n (pc := 5) (i := 0) dX12_game_5 rfl rfl ?_
  refine V_iload_n (pc := 6) (i := 1) dX12_game_6 rfl rfl ?_
  refine V_V1i (pc := 7) dX12_game_7 cX12_384 (by first | assumption | rfl) (X12_isPerson (d := 1) _ (by omega)) (Nat.le_of_ble_eq_true rfl) (by omega) (Nat.le_of_ble_eq_true rfl) ?_
  rw [hp]
  refine V_if_eq (pc := 10) 30 dX12_game_10 rfl (fun c10 => ?_) (fun c10 => ?_)
  · rw [h1i] at c10; exact absurd c10 (by decide)
  · refine V_aload_n (pc := 13) (i := 0) dX12_game_13 rfl rfl ?_
    refine V_iload_n (pc := 14) (i := 2) dX12_game_14 rfl rfl ?_
    refine V_V1i (pc := 15) dX12_game_15 cX12_384 (by first | assumption | rfl) (X12_isPerson (d := 1) _ (by omega)) (Nat.le_of_ble_eq_true rfl) (by omega) (Nat.le_of_ble_eq_true rfl) ?_
    rw [hp]
    refine V_if_eq (pc := 18) 30 dX12_game_18 rfl (fun c18 => ?_) (fun c18 => ?_)
    · rw [h2i] at c18; exact absurd c18 (by decide)
    · refine V_iload_n (pc := 21) (i := 3) dX12_game_21 rfl rfl ?_
      refine V_if_lt (pc := 22) 30 dX12_game_22 rfl (fun c22 => ?_) (fun c22 => ?_)
      · exact absurd c22 (nI_pos (by omega))
      · refine V_iload_n (pc := 25) (i := 3) dX12_game_25 rfl rfl ?_
        refine V_iconst (pc := 26) (v := 1) dX12_game_26 (by decide) ?_
        refine V_icmp_le (pc := 27) 36 dX12_game_27 rfl (fun c27 => ?_) (fun c27 => ?_)
        · refine V_iload_n (pc := 36) (i := 1) dX12_game_36 rfl rfl ?_
          refine V_iload_n (pc := 37) (i := 2) dX12_game_37 rfl rfl ?_
          refine V_icmp_ne (pc := 38) 47 dX12_game_38 rfl (fun c38 => ?_) (fun c38 => ?_)
          · exact absurd rfl c38
          · refine V_aload_n (pc := 41) (i := 0) dX12_game_41 rfl rfl ?_
            refine V_iconst (pc := 42) (v := 2) dX12_game_42 (by decide) ?_
            refine V_V1i (pc := 43) dX12_game_43 cX12_287 (by first | assumption | rfl) (X12_fail (d := 0) 2 hb) (Nat.le_of_ble_eq_true rfl) (by omega) (Nat.le_of_ble_eq_true rfl) ?_
            exact VE_iret (pc := 46) dX12_game_46 rfl rfl rfl
        · exact absurd (nI_le (b := 1) (by omega) (by decide)) c27
end M10
