/-! ===== the face: shore ===== -/
section Fs
variable {G : xG} {M : xM} {bc bs pc : Nat} {ls : List (Option Value)} {d : Nat} {b : Nat} {S T Z : Nat → Nat → Int32} {h0 h h1 : xH}
theorem VE_aret {a r : Nat} {rt : FieldType} (dg : decode M.2.1 pc = .ok (.areturn, 1)) (hr : M.2.2.2.1 = some rt) (hrt : (∃ n, rt = .object n) ∨ ∃ t, rt = .array t) (he : a = r) (hh : h = h1) : V G M d bc bs (xE (some (.ref r)) h1) pc ls [.ref a] h := by
  subst he; subst hh
  exact V_aret dg hr hrt ⟨rfl, rfl⟩
theorem X3_exchange {t s : Nat} {y : Int32} (hsh : shC (S 1 1) = t) (hy : shC y = s) (hb : gB G ≤ b) : VM G mX3_exchange d 0 0 [.ref (b + 1), .ref (b + s)] (xE (some (.ref (b + t))) (wH G b tbC (up2 S 1 1 y) h0)) (wH G b tbC S h0) := by
  subst hy
  refine VM_start (ls := [some (.ref (b + 1)), some (.ref (b + shC y)), none]) rfl ?_
  -- %m X3_exchange
  refine V_aload_n (pc := 0) (i := 0) dX3_exchange_0 rfl rfl ?_
  refine VW_getWs (pc := 1) dX3_exchange_1 fX3_21 (by first | assumption | rfl) rfl (by first | assumption | (simp (disch := omega) only [up2_row, up2_col, up2_same, upR_row]; assumption)) ?_
  refine V_astore_n (pc := 4) (i := 2) dX3_exchange_4 rfl (by decide) rfl ?_
  refine V_aload_n (pc := 5) (i := 0) dX3_exchange_5 rfl rfl ?_
  refine V_aload_n (pc := 6) (i := 1) dX3_exchange_6 rfl rfl ?_
  refine VW_putW (pc := 7) dX3_exchange_7 fX3_21 ftX3 (fpR rfl rfl (tyX3_ok 1 (by decide))) (by first | assumption | rfl) rfl (by assumption) ?_
  refine V_aload_n (pc := 10) (i := 2) dX3_exchange_10 rfl rfl ?_
  exact VE_aret (pc := 11) dX3_exchange_11 rfl (Or.inl ⟨_, rfl⟩) rfl rfl
theorem X11_shore_bad {z : Nat} {x : Int32} (hz : S 2 4 = nI z) (hx : x < 0 ∨ nI z < x) (hd : 7 ≤ d) : VM G mX11_shore d 1 6 [.ref (b + 0), .int x] (xT IAE (wH G b tbC S h0)) (wH G b tbC S h0) := by
  refine VM_start (ls := [some (.ref (b + 0)), some (.int x), none]) rfl ?_
  -- %m X11_shore
  refine V_iload_n (pc := 0) (i := 1) dX11_shore_0 rfl rfl ?_
  refine V_iconst (pc := 1) (v := 0) dX11_shore_1 (by decide) ?_
  refine V_aload_n (pc := 2) (i := 0) dX11_shore_2 rfl rfl ?_
  refine VW_getR (pc := 3) dX11_shore_3 fX11_10 (by first | assumption | rfl) rfl ?_
  refine VW_getR (pc := 6) dX11_shore_6 fX11_81 (by first | assumption | rfl) rfl ?_
  refine VW_getI (pc := 9) dX11_shore_9 fX11_85 (by first | assumption | rfl) rfl ?_
  rw [hz]
  refine V_S3t (pc := 12) dX11_shore_12 cX11_94 (X11_mustBeWithin_bad (d := 6) hx (by omega)) (Nat.le_of_ble_eq_true rfl) (by omega) (Nat.le_of_ble_eq_true rfl) ?_
  exact fun h' e => VX_out rfl ⟨rfl, e⟩
/-- when a text has been read -/
def shU (R : Nat → Nat → Int32) : Nat → Nat → Int32 := up2 (up2 R 2 4 0) 0 10 (R 1 3)
def shNew (U : Nat → Nat → Int32) (t : Nat) : Nat → Nat → Int32 := up2 (up2 (up2 (up2 (stStart (up2 (up2 U 1 1 (U 0 9)) 0 9 (U 1 1)) 17 t) 22 2 0) 24 3 0) 24 2 0) 28 4 0
theorem X11_shore {s t z k : Nat} (hsh : shC (S 0 9) = s) (hdr : shC (S 1 1) = t) (hz : S 2 4 = nI z) (h7 : z ≤ 700) (hk : k ≤ z) (hb : gB G ≤ b) (hd : 74 ≤ d) : VM G mX11_shore d 0 0 [.ref (b + 0), .int (nI k)] (xE (some (.int (if (rdT S t k).1 = 0 then 0 else (rdT S t k).1))) (wH G b tbC (if (rdT S t k).1 = 0 then shNew (shU (rdT S t k).2) t else up2 (shU (rdT S t k).2) 27 0 (shU (rdT S t k).2 27 0 + 1)) h0)) (wH G b tbC S h0) := by
  have ht := shC_or (S 1 1)
  rw [hdr] at ht
  have x : PI S (rdT S t k).2 t := PI_rdLs _ _ (PI_rd0 (by omega) hdr)
  refine VM_start (ls := [some (.ref (b + 0)), some (.int (nI k)), none]) rfl ?_
  -- %m X11_shore
  refine V_iload_n (pc := 0) (i := 1) dX11_shore_0 rfl rfl ?_
  refine V_iconst (pc := 1) (v := 0) dX11_shore_1 (by decide) ?_
  refine V_aload_n (pc := 2) (i := 0) dX11_shore_2 rfl rfl ?_
  refine VW_getR (pc := 3) dX11_shore_3 fX11_10 (by first | assumption | rfl) rfl ?_
  refine VW_getR (pc := 6) dX11_shore_6 fX11_81 (by first | assumption | rfl) rfl ?_
  refine VW_getI (pc := 9) dX11_shore_9 fX11_85 (by first | assumption | rfl) rfl ?_
  rw [hz]
  refine V_S3v (pc := 12) dX11_shore_12 cX11_94 (within_ok (l := 0) (m := z) (d := 0) (Nat.zero_le _) hk (by omega)) (Nat.le_of_ble_eq_true rfl) (by omega) (Nat.le_of_ble_eq_true rfl) ?_
  refine V_aload_n (pc := 15) (i := 0) dX11_shore_15 rfl rfl ?_
  refine VW_getR (pc := 16) dX11_shore_16 fX11_10 (by first | assumption | rfl) rfl ?_
  refine V_iload_n (pc := 19) (i := 1) dX11_shore_19 rfl rfl ?_
  refine V_V1i (pc := 20) dX11_shore_20 cX11_98 (by first | assumption | rfl) (X3_read (d := 73) (by omega) hdr hb (by omega)) (Nat.le_of_ble_eq_true rfl) (by omega) (Nat.le_of_ble_eq_true rfl) ?_
  generalize rdT S t k = R at x
  refine V_istore_n (pc := 23) (i := 2) dX11_shore_23 rfl (by decide) rfl ?_
  refine V_aload_n (pc := 24) (i := 0) dX11_shore_24 rfl rfl ?_
  refine VW_getR (pc := 25) dX11_shore_25 fX11_10 (by first | assumption | rfl) rfl ?_
  refine VW_getR (pc := 28) dX11_shore_28 fX11_81 (by first | assumption | rfl) rfl ?_
  refine V_iconst (pc := 31) (v := 0) dX11_shore_31 (by decide) ?_
  refine VW_putI (pc := 32) dX11_shore_32 fX11_85 ftX9 (fpI rfl rfl (tyX9_ok 4 (by decide))) (by first | assumption | rfl) rfl (by assumption) ?_
  refine V_aload_n (pc := 35) (i := 0) dX11_shore_35 rfl rfl ?_
  refine V_aload_n (pc := 36) (i := 0) dX11_shore_36 rfl rfl ?_
  refine VW_getR (pc := 37) dX11_shore_37 fX11_10 (by first | assumption | rfl) rfl ?_
  refine VW_getI (pc := 40) dX11_shore_40 fX11_102 (by first | assumption | rfl) rfl ?_
  rw [up2_row (by decide)]
  refine VW_putI (pc := 43) dX11_shore_43 fX11_58 ftX11 (fpI rfl rfl (tyX11_ok 10 (by decide))) (by first | assumption | rfl) rfl (by assumption) ?_
  refine V_iload_n (pc := 46) (i := 2) dX11_shore_46 rfl rfl ?_
  have u9 : shU R.2 0 9 = S 0 9 := by rw [shU, up2_col (by decide), up2_row (by decide), x.2.2.2.2.2 0 (by decide) (by decide) (by omega)]
  have u1 : shU R.2 1 1 = R.2 1 1 := by rw [shU, up2_row (by decide), up2_row (by decide)]
  show V G mX11_shore d 0 0 _ 47 _ _ (wH G b tbC (shU R.2) h0)
  generalize shU R.2 = U at u9 u1
  have hd1 : shC (U 1 1) = t := by rw [u1]; exact x.2.1
  have hs1 : shC (U 0 9) = s := by rw [u9]; exact hsh
  refine V_if_eq (pc := 47) 62 dX11_shore_47 rfl (fun c47 => ?_) (fun c47 => ?_)
  · rw [if_pos c47, if_pos c47]
    have hS := tbC_shore (U 1 1)
    rw [hd1] at hS
    refine V_aload_n (pc := 62) (i := 0) dX11_shore_62 rfl rfl ?_
    refine V_aload_n (pc := 63) (i := 0) dX11_shore_63 rfl rfl ?_
    refine VW_getR (pc := 64) dX11_shore_64 fX11_10 (by first | assumption | rfl) rfl ?_
    refine V_aload_n (pc := 67) (i := 0) dX11_shore_67 rfl rfl ?_
    refine VW_getWs (pc := 68) dX11_shore_68 fX11_68 (by first | assumption | rfl) rfl (by first | assumption | (simp (disch := omega) only [up2_row, up2_col, up2_same, upR_row]; assumption)) ?_
    refine V_V1r (pc := 71) dX11_shore_71 cX11_105 (by first | assumption | rfl) (X3_exchange (d := 0) hd1 hs1 hb) (Nat.le_of_ble_eq_true rfl) (by omega) (Nat.le_of_ble_eq_true rfl) ?_
    rw [← hd1]
    refine VW_putW (pc := 74) dX11_shore_74 fX11_68 ftX11 (fpR rfl rfl (tyX11_ok 9 (by decide))) (by first | assumption | rfl) rfl (by assumption) ?_
    have hs3 : shC (up2 (up2 U 1 1 (U 0 9)) 0 9 (U 1 1) 0 9) = t := by rw [up2_same]; exact hd1
    rw [hd1]
    refine V_aload_n (pc := 77) (i := 0) dX11_shore_77 rfl rfl ?_
    refine VW_getR (pc := 78) dX11_shore_78 fX11_19 (by first | assumption | rfl) rfl ?_
    refine V_aload_n (pc := 81) (i := 0) dX11_shore_81 rfl rfl ?_
    refine VW_getWs (pc := 82) dX11_shore_82 fX11_68 (by first | assumption | rfl) rfl (by first | assumption | (simp (disch := omega) only [up2_row, up2_col, up2_same, upR_row]; assumption)) ?_
    refine V_V1v (pc := 85) dX11_shore_85 cX11_109 (by first | assumption | rfl) (X8_startFrom (d := 1) tbC_17 hS (by omega) hb (by omega)) (Nat.le_of_ble_eq_true rfl) (by omega) (Nat.le_of_ble_eq_true rfl) ?_
    refine V_aload_n (pc := 88) (i := 0) dX11_shore_88 rfl rfl ?_
    refine VW_getR (pc := 89) dX11_shore_89 fX11_26 (by first | assumption | rfl) rfl ?_
    refine V_V0v (pc := 92) dX11_shore_92 cX11_112 (by first | assumption | rfl) (X0_clear (d := 0) tbC_22 hb) (Nat.le_of_ble_eq_true rfl) (by omega) (Nat.le_of_ble_eq_true rfl) ?_
    refine V_aload_n (pc := 95) (i := 0) dX11_shore_95 rfl rfl ?_
    refine VW_getR (pc := 96) dX11_shore_96 fX11_33 (by first | assumption | rfl) rfl ?_
    refine V_V0v (pc := 99) dX11_shore_99 cX11_115 (by first | assumption | rfl) (X5_clear (d := 0) tbC_24 hb) (Nat.le_of_ble_eq_true rfl) (by omega) (Nat.le_of_ble_eq_true rfl) ?_
    refine V_aload_n (pc := 102) (i := 0) dX11_shore_102 rfl rfl ?_
    refine VW_getR (pc := 103) dX11_shore_103 fX11_44 (by first | assumption | rfl) rfl ?_
    refine V_iconst (pc := 106) (v := 0) dX11_shore_106 (by decide) ?_
    refine VW_putI (pc := 107) dX11_shore_107 fX11_116 ftX2 (fpZ rfl rfl (tyX2_ok 4 (by decide)) (by first | exact Or.inl rfl | exact Or.inr rfl)) (by first | assumption | rfl) rfl (by assumption) ?_
    refine V_iconst (pc := 110) (v := 0) dX11_shore_110 (by decide) ?_
    exact VE_iret (pc := 111) dX11_shore_111 rfl rfl rfl
  · rw [if_neg c47, if_neg c47]
    refine V_aload_n (pc := 50) (i := 0) dX11_shore_50 rfl rfl ?_
    refine VW_getR (pc := 51) dX11_shore_51 fX11_37 (by first | assumption | rfl) rfl ?_
    refine V_iconst (pc := 54) (v := 0) dX11_shore_54 (by decide) ?_
    refine V_dup2 (pc := 55) dX11_shore_55 rfl rfl ?_
    refine VW_ialdN (pc := 56) dX11_shore_56 (by first | assumption | rfl) (j := 0) rfl (by decide) (by first | decide | omega) ?_
    refine V_iconst (pc := 57) (v := 1) dX11_shore_57 (by decide) ?_
    refine V_iadd (pc := 58) dX11_shore_58 ?_
    refine VW_iastN (pc := 59) dX11_shore_59 (by first | assumption | rfl) (by assumption) (j := 0) rfl (by decide) (by first | decide | omega) ?_
    refine V_iload_n (pc := 60) (i := 2) dX11_shore_60 rfl rfl ?_
    exact VE_iret (pc := 61) dX11_shore_61 rfl rfl rfl
end Fs
