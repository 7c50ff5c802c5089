/-! ===== the model: pack, unpack, keep, what acts do ===== -/
section M4
variable {G : xG} {d : Nat} {b : Nat} {S : Nat → Nat → Int32} {h0 h : xH}
theorem upR_self {k : Nat} : upR S k (S k) = S := by
  funext k'
  by_cases e : k' = k
  · subst e; rw [upR_same]
  · rw [upR_row e]
theorem ix1 {a : Nat} (c : Int32) (k : Nat) (hc : c = nI k) : nI a + c = nI (a + k) := by rw [hc, nI_add]
theorem ix2 {a p : Nat} (c : Int32) (k : Nat) (hc : c = nI k) : nI a + c + nI p = nI (a + k + p) := by rw [hc, nI_add, nI_add]
theorem ix3 {a p : Nat} (c e : Int32) (k l : Nat) (hc : c = nI k) (he : e = nI l) : nI a + c + e + nI p = nI (a + (k + l) + p) := by rw [hc, he, nI_add, nI_add, nI_add, Nat.add_assoc a k l]
/-- a state is laid into a row from a on -/
def pkL (S : Nat → Nat → Int32) (a : Nat) : Nat → Nat → (Nat → Int32) → Nat → Int32
  | 0, _, f => f
  | m + 1, p, f => pkL S a m (p + 1) (upd (upd (upd (upd f (a + 4 + p) (S 16 p)) (a + (4 + 8) + p) (S 17 p)) (a + (4 + 16) + p) (S 18 p)) (a + (4 + 24) + p) (S 19 p))
def pkR (S : Nat → Nat → Int32) (a : Nat) (f : Nat → Int32) : Nat → Int32 := pkL S a 8 0 (upd (upd (upd (upd f a (S 0 32)) (a + 1) (S 0 33)) (a + 2) (S 0 34)) (a + 3) (S 0 35))
theorem X12_packU {r a N : Nat} {f : Nat → Int32} (hr : tbM[r]? = some (.inl (0, N))) (hr0 : 20 ≤ r) (ha : a + 36 ≤ N) (hN : N ≤ 1440) (hb : gB G ≤ b) : VM G mX12_pack d 0 0 [.ref (b + 0), .ref (b + r), .int (nI a)] (xE none (wH G b tbM (upR S r (pkR S a f)) h0)) (wH G b tbM (upR S r f) h0) := by
  refine VM_start (ls := [some (.ref (b + 0)), some (.ref (b + r)), some (.int (nI a)), none]) rfl ?_
  have loop : ∀ (m p : Nat) (f : Nat → Int32), m + p = 8 → V G mX12_pack d 0 0 (xE none (wH G b tbM (upR S r (pkL S a m p f)) h0)) 36 [some (.ref (b + 0)), some (.ref (b + r)), some (.int (nI a)), some (.int (nI p))] [] (wH G b tbM (upR S r f) h0) := by
    intro m
    induction m with
    | zero =>
      intro p f hm
      -- %m X12_pack
      refine V_iload_n (pc := 36) (i := 3) dX12_pack_36 rfl rfl ?_
      refine V_bipush (pc := 37) (v := 8) dX12_pack_37 (by decide) ?_
      refine V_icmp_ge (pc := 39) 109 dX12_pack_39 rfl (fun c39 => ?_) (fun c39 => ?_)
      · exact VE_vret (pc := 109) dX12_pack_109 rfl rfl
      · exact absurd (by rw [show p = 8 by omega]; decide) c39
    | succ m ih =>
      intro p f hm
      rw [pkL]
      refine V_iload_n (pc := 36) (i := 3) dX12_pack_36 rfl rfl ?_
      refine V_bipush (pc := 37) (v := 8) dX12_pack_37 (by decide) ?_
      refine V_icmp_ge (pc := 39) 109 dX12_pack_39 rfl (fun c39 => ?_) (fun c39 => ?_)
      · exact absurd c39 (nI_ge (b := 8) (by omega) (by decide))
      · refine V_aload_n (pc := 42) (i := 1) dX12_pack_42 rfl rfl ?_
        refine V_iload_n (pc := 43) (i := 2) dX12_pack_43 rfl rfl ?_
        refine V_iconst (pc := 44) (v := 4) dX12_pack_44 (by decide) ?_
        refine V_iadd (pc := 45) dX12_pack_45 ?_
        refine V_iload_n (pc := 46) (i := 3) dX12_pack_46 rfl rfl ?_
        refine V_iadd (pc := 47) dX12_pack_47 ?_
        refine V_aload_n (pc := 48) (i := 0) dX12_pack_48 rfl rfl ?_
        refine VW_getR (pc := 49) dX12_pack_49 fX12_80 (by first | assumption | rfl) rfl ?_
        refine V_iload_n (pc := 52) (i := 3) dX12_pack_52 rfl rfl ?_
        refine VW_ialdN (pc := 53) dX12_pack_53 (by first | assumption | rfl) rfl (by omega) (by first | decide | omega) ?_
        rw [upR_row (by omega)]
        refine VW_iastN (pc := 54) dX12_pack_54 (by first | assumption | rfl) (by assumption) (j := a + 4 + p) (ix2 4 4 rfl) (by omega) (by first | decide | omega) ?_
        rw [up2_upR]
        refine V_aload_n (pc := 55) (i := 1) dX12_pack_55 rfl rfl ?_
        refine V_iload_n (pc := 56) (i := 2) dX12_pack_56 rfl rfl ?_
        refine V_iconst (pc := 57) (v := 4) dX12_pack_57 (by decide) ?_
        refine V_iadd (pc := 58) dX12_pack_58 ?_
        refine V_bipush (pc := 59) (v := 8) dX12_pack_59 (by decide) ?_
        refine V_iadd (pc := 61) dX12_pack_61 ?_
        refine V_iload_n (pc := 62) (i := 3) dX12_pack_62 rfl rfl ?_
        refine V_iadd (pc := 63) dX12_pack_63 ?_
        refine V_aload_n (pc := 64) (i := 0) dX12_pack_64 rfl rfl ?_
        refine VW_getR (pc := 65) dX12_pack_65 fX12_83 (by first | assumption | rfl) rfl ?_
        refine V_iload_n (pc := 68) (i := 3) dX12_pack_68 rfl rfl ?_
        refine VW_ialdN (pc := 69) dX12_pack_69 (by first | assumption | rfl) rfl (by omega) (by first | decide | omega) ?_
        rw [upR_row (by omega)]
        refine VW_iastN (pc := 70) dX12_pack_70 (by first | assumption | rfl) (by assumption) (j := a + (4 + 8) + p) (ix3 4 8 4 8 rfl rfl) (by omega) (by first | decide | omega) ?_
        rw [up2_upR]
        refine V_aload_n (pc := 71) (i := 1) dX12_pack_71 rfl rfl ?_
        refine V_iload_n (pc := 72) (i := 2) dX12_pack_72 rfl rfl ?_
        refine V_iconst (pc := 73) (v := 4) dX12_pack_73 (by decide) ?_
        refine V_iadd (pc := 74) dX12_pack_74 ?_
        refine V_bipush (pc := 75) (v := 16) dX12_pack_75 (by decide) ?_
        refine V_iadd (pc := 77) dX12_pack_77 ?_
        refine V_iload_n (pc := 78) (i := 3) dX12_pack_78 rfl rfl ?_
        refine V_iadd (pc := 79) dX12_pack_79 ?_
        refine V_aload_n (pc := 80) (i := 0) dX12_pack_80 rfl rfl ?_
        refine VW_getR (pc := 81) dX12_pack_81 fX12_86 (by first | assumption | rfl) rfl ?_
        refine V_iload_n (pc := 84) (i := 3) dX12_pack_84 rfl rfl ?_
        refine VW_ialdN (pc := 85) dX12_pack_85 (by first | assumption | rfl) rfl (by omega) (by first | decide | omega) ?_
        rw [upR_row (by omega)]
        refine VW_iastN (pc := 86) dX12_pack_86 (by first | assumption | rfl) (by assumption) (j := a + (4 + 16) + p) (ix3 4 16 4 16 rfl rfl) (by omega) (by first | decide | omega) ?_
        rw [up2_upR]
        refine V_aload_n (pc := 87) (i := 1) dX12_pack_87 rfl rfl ?_
        refine V_iload_n (pc := 88) (i := 2) dX12_pack_88 rfl rfl ?_
        refine V_iconst (pc := 89) (v := 4) dX12_pack_89 (by decide) ?_
        refine V_iadd (pc := 90) dX12_pack_90 ?_
        refine V_bipush (pc := 91) (v := 24) dX12_pack_91 (by decide) ?_
        refine V_iadd (pc := 93) dX12_pack_93 ?_
        refine V_iload_n (pc := 94) (i := 3) dX12_pack_94 rfl rfl ?_
        refine V_iadd (pc := 95) dX12_pack_95 ?_
        refine V_aload_n (pc := 96) (i := 0) dX12_pack_96 rfl rfl ?_
        refine VW_getR (pc := 97) dX12_pack_97 fX12_88 (by first | assumption | rfl) rfl ?_
        refine V_iload_n (pc := 100) (i := 3) dX12_pack_100 rfl rfl ?_
        refine VW_ialdN (pc := 101) dX12_pack_101 (by first | assumption | rfl) rfl (by omega) (by first | decide | omega) ?_
        rw [upR_row (by omega)]
        refine VW_iastN (pc := 102) dX12_pack_102 (by first | assumption | rfl) (by assumption) (j := a + (4 + 24) + p) (ix3 4 24 4 24 rfl rfl) (by omega) (by first | decide | omega) ?_
        rw [up2_upR]
        refine V_iinc (pc := 103) dX12_pack_103 (by decide) rfl rfl (iincN (n := 1) (by decide)) ?_
        refine V_goto (pc := 106) 36 dX12_pack_106 rfl ?_
        exact ih (p + 1) _ (by omega)
  unfold pkR
  -- %m X12_pack
  refine V_aload_n (pc := 0) (i := 1) dX12_pack_0 rfl rfl ?_
  refine V_iload_n (pc := 1) (i := 2) dX12_pack_1 rfl rfl ?_
  refine V_aload_n (pc := 2) (i := 0) dX12_pack_2 rfl rfl ?_
  refine VW_getI (pc := 3) dX12_pack_3 fX12_300 (by first | assumption | rfl) rfl ?_
  rw [upR_row (by omega)]
  refine VW_iastN (pc := 6) dX12_pack_6 (by first | assumption | rfl) (by assumption) rfl (by omega) (by first | decide | omega) ?_
  rw [up2_upR]
  refine V_aload_n (pc := 7) (i := 1) dX12_pack_7 rfl rfl ?_
  refine V_iload_n (pc := 8) (i := 2) dX12_pack_8 rfl rfl ?_
  refine V_iconst (pc := 9) (v := 1) dX12_pack_9 (by decide) ?_
  refine V_iadd (pc := 10) dX12_pack_10 ?_
  refine V_aload_n (pc := 11) (i := 0) dX12_pack_11 rfl rfl ?_
  refine VW_getI (pc := 12) dX12_pack_12 fX12_302 (by first | assumption | rfl) rfl ?_
  rw [upR_row (by omega)]
  refine VW_iastN (pc := 15) dX12_pack_15 (by first | assumption | rfl) (by assumption) (j := a + 1) (ix1 1 1 rfl) (by omega) (by first | decide | omega) ?_
  rw [up2_upR]
  refine V_aload_n (pc := 16) (i := 1) dX12_pack_16 rfl rfl ?_
  refine V_iload_n (pc := 17) (i := 2) dX12_pack_17 rfl rfl ?_
  refine V_iconst (pc := 18) (v := 2) dX12_pack_18 (by decide) ?_
  refine V_iadd (pc := 19) dX12_pack_19 ?_
  refine V_aload_n (pc := 20) (i := 0) dX12_pack_20 rfl rfl ?_
  refine VW_getI (pc := 21) dX12_pack_21 fX12_304 (by first | assumption | rfl) rfl ?_
  rw [upR_row (by omega)]
  refine VW_iastN (pc := 24) dX12_pack_24 (by first | assumption | rfl) (by assumption) (j := a + 2) (ix1 2 2 rfl) (by omega) (by first | decide | omega) ?_
  rw [up2_upR]
  refine V_aload_n (pc := 25) (i := 1) dX12_pack_25 rfl rfl ?_
  refine V_iload_n (pc := 26) (i := 2) dX12_pack_26 rfl rfl ?_
  refine V_iconst (pc := 27) (v := 3) dX12_pack_27 (by decide) ?_
  refine V_iadd (pc := 28) dX12_pack_28 ?_
  refine V_aload_n (pc := 29) (i := 0) dX12_pack_29 rfl rfl ?_
  refine VW_getI (pc := 30) dX12_pack_30 fX12_136 (by first | assumption | rfl) rfl ?_
  rw [upR_row (by omega)]
  refine VW_iastN (pc := 33) dX12_pack_33 (by first | assumption | rfl) (by assumption) (j := a + 3) (ix1 3 3 rfl) (by omega) (by first | decide | omega) ?_
  rw [up2_upR]
  refine V_iconst (pc := 34) (v := 0) dX12_pack_34 (by decide) ?_
  refine V_istore_n (pc := 35) (i := 3) dX12_pack_35 rfl (by decide) rfl ?_
  exact loop 8 0 _ rfl
theorem X12_pack {r a N : Nat} (hr : tbM[r]? = some (.inl (0, N))) (hr0 : 20 ≤ r) (ha : a + 36 ≤ N) (hN : N ≤ 1440) (hb : gB G ≤ b) : VM G mX12_pack d 0 0 [.ref (b + 0), .ref (b + r), .int (nI a)] (xE none (wH G b tbM (upR S r (pkR S a (S r))) h0)) (wH G b tbM S h0) := by
  have k := X12_packU (G := G) (d := d) (b := b) (h0 := h0) (S := S) (f := S r) hr hr0 ha hN hb
  rw [upR_self] at k
  exact k
/-- a state is taken out of a row g from a on -/
def unL (g : Nat → Int32) (a : Nat) : Nat → Nat → (Nat → Nat → Int32) → Nat → Nat → Int32
  | 0, _, S => S
  | m + 1, p, S => unL g a m (p + 1) (up2 (up2 (up2 (up2 S 16 p (g (a + 4 + p))) 17 p (g (a + (4 + 8) + p))) 18 p (g (a + (4 + 16) + p))) 19 p (g (a + (4 + 24) + p)))
def unR (g : Nat → Int32) (a : Nat) (S : Nat → Nat → Int32) : Nat → Nat → Int32 := unL g a 8 0 (up2 (up2 (up2 (up2 S 0 32 (g a)) 0 33 (g (a + 1))) 0 34 (g (a + 2))) 0 35 (g (a + 3)))
theorem X12_unpack {r a N : Nat} (hr : tbM[r]? = some (.inl (0, N))) (hr0 : 20 ≤ r) (ha : a + 36 ≤ N) (hN : N ≤ 1440) (hb : gB G ≤ b) : VM G mX12_unpack d 0 0 [.ref (b + 0), .ref (b + r), .int (nI a)] (xE none (wH G b tbM (unR (S r) a S) h0)) (wH G b tbM S h0) := by
  refine VM_start (ls := [some (.ref (b + 0)), some (.ref (b + r)), some (.int (nI a)), none]) rfl ?_
  generalize hg : S r = g
  have loop : ∀ (m p : Nat) (U : Nat → Nat → Int32), m + p = 8 → U r = g → V G mX12_unpack d 0 0 (xE none (wH G b tbM (unL g a m p U) h0)) 36 [some (.ref (b + 0)), some (.ref (b + r)), some (.int (nI a)), some (.int (nI p))] [] (wH G b tbM U h0) := by
    intro m
    induction m with
    | zero =>
      intro p U hm hU
      -- %m X12_unpack
      refine V_iload_n (pc := 36) (i := 3) dX12_unpack_36 rfl rfl ?_
      refine V_bipush (pc := 37) (v := 8) dX12_unpack_37 (by decide) ?_
      refine V_icmp_ge (pc := 39) 109 dX12_unpack_39 rfl (fun c39 => ?_) (fun c39 => ?_)
      · exact VE_vret (pc := 109) dX12_unpack_109 rfl rfl
      · exact absurd (by rw [show p = 8 by omega]; decide) c39
    | succ m ih =>
      intro p U hm hU
      rw [unL]
      refine V_iload_n (pc := 36) (i := 3) dX12_unpack_36 rfl rfl ?_
      refine V_bipush (pc := 37) (v := 8) dX12_unpack_37 (by decide) ?_
      refine V_icmp_ge (pc := 39) 109 dX12_unpack_39 rfl (fun c39 => ?_) (fun c39 => ?_)
      · exact absurd c39 (nI_ge (b := 8) (by omega) (by decide))
      · refine V_aload_n (pc := 42) (i := 0) dX12_unpack_42 rfl rfl ?_
        refine VW_getR (pc := 43) dX12_unpack_43 fX12_80 (by first | assumption | rfl) rfl ?_
        refine V_iload_n (pc := 46) (i := 3) dX12_unpack_46 rfl rfl ?_
        refine V_aload_n (pc := 47) (i := 1) dX12_unpack_47 rfl rfl ?_
        refine V_iload_n (pc := 48) (i := 2) dX12_unpack_48 rfl rfl ?_
        refine V_iconst (pc := 49) (v := 4) dX12_unpack_49 (by decide) ?_
        refine V_iadd (pc := 50) dX12_unpack_50 ?_
        refine V_iload_n (pc := 51) (i := 3) dX12_unpack_51 rfl rfl ?_
        refine V_iadd (pc := 52) dX12_unpack_52 ?_
        refine VW_ialdN (pc := 53) dX12_unpack_53 (by first | assumption | rfl) (j := a + 4 + p) (ix2 4 4 rfl) (by omega) (by first | decide | omega) ?_
        rw [hU]
        refine VW_iastN (pc := 54) dX12_unpack_54 (by first | assumption | rfl) (by assumption) rfl (by omega) (by first | decide | omega) ?_
        refine V_aload_n (pc := 55) (i := 0) dX12_unpack_55 rfl rfl ?_
        refine VW_getR (pc := 56) dX12_unpack_56 fX12_83 (by first | assumption | rfl) rfl ?_
        refine V_iload_n (pc := 59) (i := 3) dX12_unpack_59 rfl rfl ?_
        refine V_aload_n (pc := 60) (i := 1) dX12_unpack_60 rfl rfl ?_
        refine V_iload_n (pc := 61) (i := 2) dX12_unpack_61 rfl rfl ?_
        refine V_iconst (pc := 62) (v := 4) dX12_unpack_62 (by decide) ?_
        refine V_iadd (pc := 63) dX12_unpack_63 ?_
        refine V_bipush (pc := 64) (v := 8) dX12_unpack_64 (by decide) ?_
        refine V_iadd (pc := 66) dX12_unpack_66 ?_
        refine V_iload_n (pc := 67) (i := 3) dX12_unpack_67 rfl rfl ?_
        refine V_iadd (pc := 68) dX12_unpack_68 ?_
        refine VW_ialdN (pc := 69) dX12_unpack_69 (by first | assumption | rfl) (j := a + (4 + 8) + p) (ix3 4 8 4 8 rfl rfl) (by omega) (by first | decide | omega) ?_
        rw [up2_row (by omega), hU]
        refine VW_iastN (pc := 70) dX12_unpack_70 (by first | assumption | rfl) (by assumption) rfl (by omega) (by first | decide | omega) ?_
        refine V_aload_n (pc := 71) (i := 0) dX12_unpack_71 rfl rfl ?_
        refine VW_getR (pc := 72) dX12_unpack_72 fX12_86 (by first | assumption | rfl) rfl ?_
        refine V_iload_n (pc := 75) (i := 3) dX12_unpack_75 rfl rfl ?_
        refine V_aload_n (pc := 76) (i := 1) dX12_unpack_76 rfl rfl ?_
        refine V_iload_n (pc := 77) (i := 2) dX12_unpack_77 rfl rfl ?_
        refine V_iconst (pc := 78) (v := 4) dX12_unpack_78 (by decide) ?_
        refine V_iadd (pc := 79) dX12_unpack_79 ?_
        refine V_bipush (pc := 80) (v := 16) dX12_unpack_80 (by decide) ?_
        refine V_iadd (pc := 82) dX12_unpack_82 ?_
        refine V_iload_n (pc := 83) (i := 3) dX12_unpack_83 rfl rfl ?_
        refine V_iadd (pc := 84) dX12_unpack_84 ?_
        refine VW_ialdN (pc := 85) dX12_unpack_85 (by first | assumption | rfl) (j := a + (4 + 16) + p) (ix3 4 16 4 16 rfl rfl) (by omega) (by first | decide | omega) ?_
        rw [up2_row (by omega), up2_row (by omega), hU]
        refine VW_iastN (pc := 86) dX12_unpack_86 (by first | assumption | rfl) (by assumption) rfl (by omega) (by first | decide | omega) ?_
        refine V_aload_n (pc := 87) (i := 0) dX12_unpack_87 rfl rfl ?_
        refine VW_getR (pc := 88) dX12_unpack_88 fX12_88 (by first | assumption | rfl) rfl ?_
        refine V_iload_n (pc := 91) (i := 3) dX12_unpack_91 rfl rfl ?_
        refine V_aload_n (pc := 92) (i := 1) dX12_unpack_92 rfl rfl ?_
        refine V_iload_n (pc := 93) (i := 2) dX12_unpack_93 rfl rfl ?_
        refine V_iconst (pc := 94) (v := 4) dX12_unpack_94 (by decide) ?_
        refine V_iadd (pc := 95) dX12_unpack_95 ?_
        refine V_bipush (pc := 96) (v := 24) dX12_unpack_96 (by decide) ?_
        refine V_iadd (pc := 98) dX12_unpack_98 ?_
        refine V_iload_n (pc := 99) (i := 3) dX12_unpack_99 rfl rfl ?_
        refine V_iadd (pc := 100) dX12_unpack_100 ?_
        refine VW_ialdN (pc := 101) dX12_unpack_101 (by first | assumption | rfl) (j := a + (4 + 24) + p) (ix3 4 24 4 24 rfl rfl) (by omega) (by first | decide | omega) ?_
        rw [up2_row (by omega), up2_row (by omega), up2_row (by omega), hU]
        refine VW_iastN (pc := 102) dX12_unpack_102 (by first | assumption | rfl) (by assumption) rfl (by omega) (by first | decide | omega) ?_
        refine V_iinc (pc := 103) dX12_unpack_103 (by decide) rfl rfl (iincN (n := 1) (by decide)) ?_
        refine V_goto (pc := 106) 36 dX12_unpack_106 rfl ?_
        exact ih (p + 1) _ (by omega) (by rw [up2_row (by omega), up2_row (by omega), up2_row (by omega), up2_row (by omega)]; exact hU)
  unfold unR
  -- %m X12_unpack
  refine V_aload_n (pc := 0) (i := 0) dX12_unpack_0 rfl rfl ?_
  refine V_aload_n (pc := 1) (i := 1) dX12_unpack_1 rfl rfl ?_
  refine V_iload_n (pc := 2) (i := 2) dX12_unpack_2 rfl rfl ?_
  refine VW_ialdN (pc := 3) dX12_unpack_3 (by first | assumption | rfl) rfl (by omega) (by first | decide | omega) ?_
  rw [hg]
  refine VW_putI (pc := 4) dX12_unpack_4 fX12_300 ftX12 (fpI rfl rfl (tyX12_ok 32 (by decide))) (by first | assumption | rfl) rfl (by assumption) ?_
  refine V_aload_n (pc := 7) (i := 0) dX12_unpack_7 rfl rfl ?_
  refine V_aload_n (pc := 8) (i := 1) dX12_unpack_8 rfl rfl ?_
  refine V_iload_n (pc := 9) (i := 2) dX12_unpack_9 rfl rfl ?_
  refine V_iconst (pc := 10) (v := 1) dX12_unpack_10 (by decide) ?_
  refine V_iadd (pc := 11) dX12_unpack_11 ?_
  refine VW_ialdN (pc := 12) dX12_unpack_12 (by first | assumption | rfl) (j := a + 1) (ix1 1 1 rfl) (by omega) (by first | decide | omega) ?_
  rw [up2_row (by omega), hg]
  refine VW_putI (pc := 13) dX12_unpack_13 fX12_302 ftX12 (fpI rfl rfl (tyX12_ok 33 (by decide))) (by first | assumption | rfl) rfl (by assumption) ?_
  refine V_aload_n (pc := 16) (i := 0) dX12_unpack_16 rfl rfl ?_
  refine V_aload_n (pc := 17) (i := 1) dX12_unpack_17 rfl rfl ?_
  refine V_iload_n (pc := 18) (i := 2) dX12_unpack_18 rfl rfl ?_
  refine V_iconst (pc := 19) (v := 2) dX12_unpack_19 (by decide) ?_
  refine V_iadd (pc := 20) dX12_unpack_20 ?_
  refine VW_ialdN (pc := 21) dX12_unpack_21 (by first | assumption | rfl) (j := a + 2) (ix1 2 2 rfl) (by omega) (by first | decide | omega) ?_
  rw [up2_row (by omega), up2_row (by omega), hg]
  refine VW_putI (pc := 22) dX12_unpack_22 fX12_304 ftX12 (fpI rfl rfl (tyX12_ok 34 (by decide))) (by first | assumption | rfl) rfl (by assumption) ?_
  refine V_aload_n (pc := 25) (i := 0) dX12_unpack_25 rfl rfl ?_
  refine V_aload_n (pc := 26) (i := 1) dX12_unpack_26 rfl rfl ?_
  refine V_iload_n (pc := 27) (i := 2) dX12_unpack_27 rfl rfl ?_
  refine V_iconst (pc := 28) (v := 3) dX12_unpack_28 (by decide) ?_
  refine V_iadd (pc := 29) dX12_unpack_29 ?_
  refine VW_ialdN (pc := 30) dX12_unpack_30 (by first | assumption | rfl) (j := a + 3) (ix1 3 3 rfl) (by omega) (by first | decide | omega) ?_
  rw [up2_row (by omega), up2_row (by omega), up2_row (by omega), hg]
  refine VW_putI (pc := 31) dX12_unpack_31 fX12_136 ftX12 (fpI rfl rfl (tyX12_ok 35 (by decide))) (by first | assumption | rfl) rfl (by assumption) ?_
  refine V_iconst (pc := 34) (v := 0) dX12_unpack_34 (by decide) ?_
  refine V_istore_n (pc := 35) (i := 3) dX12_unpack_35 rfl (by decide) rfl ?_
  exact loop 8 0 _ rfl (by rw [up2_row (by omega), up2_row (by omega), up2_row (by omega), up2_row (by omega)]; exact hg)
/-- the row is moved down by 36 -/
def shL : Nat → Nat → (Nat → Int32) → Nat → Int32
  | 0, _, f => f
  | m + 1, k, f => shL m (k + 1) (upd f (k - 36) (f k))
def mKeepR (S : Nat → Nat → Int32) (na : Nat) : Nat → Int32 := if na < 40 then pkR S (36 * na) (S 20) else pkR S 1404 (shL 1404 36 (S 20))
def mKeep (S : Nat → Nat → Int32) (na : Nat) : Nat → Nat → Int32 := up2 (upR S 20 (mKeepR S na)) 0 36 (nI (if na < 40 then na + 1 else 40))
theorem pkL_eq {T : Nat → Nat → Int32} {a : Nat} (h16 : T 16 = S 16) (h17 : T 17 = S 17) (h18 : T 18 = S 18) (h19 : T 19 = S 19) : ∀ (m p : Nat) (f : Nat → Int32), pkL T a m p f = pkL S a m p f := by
  intro m
  induction m with
  | zero => intro p f; rfl
  | succ m ih => intro p f; rw [pkL, pkL, ih, h16, h17, h18, h19]
theorem pkR_eq {T : Nat → Nat → Int32} {a : Nat} {f : Nat → Int32} (h0 : ∀ j, 32 ≤ j → j ≤ 35 → T 0 j = S 0 j) (h16 : T 16 = S 16) (h17 : T 17 = S 17) (h18 : T 18 = S 18) (h19 : T 19 = S 19) : pkR T a f = pkR S a f := by
  unfold pkR
  rw [pkL_eq h16 h17 h18 h19, h0 32 (by decide) (by decide), h0 33 (by decide) (by decide), h0 34 (by decide) (by decide), h0 35 (by decide) (by decide)]
theorem upR_up2 {k k' j : Nat} {f g : Nat → Int32} {x : Int32} (hk : k ≠ k') : upR (up2 (upR S k f) k' j x) k g = up2 (upR S k g) k' j x := by
  funext q
  by_cases e : q = k
  · subst e; rw [upR_same, up2_row (by omega), upR_same]
  · rw [upR_row e]
    by_cases e2 : q = k'
    · subst e2
      funext q2
      by_cases e3 : q2 = j
      · subst e3; rw [up2_same, up2_same]
      · rw [up2_col e3, up2_col e3, upR_row e, upR_row e]
    · rw [up2_row e2, up2_row e2, upR_row e, upR_row e]
theorem X12_keep {na : Nat} (ha : S 0 36 = nI na) (hna : na ≤ 40) (hb : gB G ≤ b) (hd : 1 ≤ d) : VM G mX12_keep d 0 0 [.ref (b + 0)] (xE none (wH G b tbM (mKeep S na) h0)) (wH G b tbM S h0) := by
  refine VM_start (ls := [some (.ref (b + 0)), none]) rfl ?_
  -- %m X12_keep
  refine V_aload_n (pc := 0) (i := 0) dX12_keep_0 rfl rfl ?_
  refine VW_getI (pc := 1) dX12_keep_1 fX12_307 (by first | assumption | rfl) rfl ?_
  refine V_bipush (pc := 4) (v := 40) dX12_keep_4 (by decide) ?_
  refine V_icmp_ne (pc := 6) 52 dX12_keep_6 rfl (fun c6 => ?_) (fun c6 => ?_)
  · have hlt : na < 40 := by
      have q : na ≠ 40 := fun q => c6 (by rw [ha, q]; rfl)
      omega
    refine V_aload_n (pc := 52) (i := 0) dX12_keep_52 rfl rfl ?_
    refine V_aload_n (pc := 53) (i := 0) dX12_keep_53 rfl rfl ?_
    refine VW_getR (pc := 54) dX12_keep_54 fX12_90 (by first | assumption | rfl) rfl ?_
    refine V_bipush (pc := 57) (v := 36) dX12_keep_57 (by decide) ?_
    refine V_aload_n (pc := 59) (i := 0) dX12_keep_59 rfl rfl ?_
    refine VW_getI (pc := 60) dX12_keep_60 fX12_307 (by first | assumption | rfl) rfl ?_
    rw [ha]
    refine V_imul (pc := 63) dX12_keep_63 ?_
    rw [show (36 : Int32) * nI na = nI (36 * na) from pk_mul 36 na]
    refine V_V2v (pc := 64) dX12_keep_64 cX12_387 (by first | assumption | rfl) (X12_pack (d := 0) (r := 20) (N := 1440) rfl (by decide) (by omega) (by decide) hb) (Nat.le_of_ble_eq_true rfl) (by omega) (Nat.le_of_ble_eq_true rfl) ?_
    refine V_aload_n (pc := 67) (i := 0) dX12_keep_67 rfl rfl ?_
    refine V_dup (pc := 68) dX12_keep_68 rfl ?_
    refine VW_getI (pc := 69) dX12_keep_69 fX12_307 (by first | assumption | rfl) rfl ?_
    rw [upR_row (by decide), ha]
    refine V_iconst (pc := 72) (v := 1) dX12_keep_72 (by decide) ?_
    refine V_iadd (pc := 73) dX12_keep_73 ?_
    rw [nI_1]
    refine VW_putI (pc := 74) dX12_keep_74 fX12_307 ftX12 (fpI rfl rfl (tyX12_ok 36 (by decide))) (by first | assumption | rfl) rfl (by assumption) ?_
    exact VE_vret (pc := 77) dX12_keep_77 rfl (by rw [mKeep, mKeepR, if_pos hlt, if_pos hlt])
  · have e40 : na = 40 := (nI_eq (by omega) (by decide)).mp (ha.symm.trans c6)
    subst e40
    refine V_bipush (pc := 9) (v := 36) dX12_keep_9 (by decide) ?_
    refine V_istore_n (pc := 11) (i := 1) dX12_keep_11 rfl (by decide) rfl ?_
    have loop : ∀ (m k : Nat) (f : Nat → Int32), m + k = 1440 → 36 ≤ k → V G mX12_keep d 0 0 (xE none (wH G b tbM (mKeep S 40) h0)) 42 [some (.ref (b + 0)), some (.int (nI 1440))] [] (wH G b tbM (upR S 20 (shL m k f)) h0) → V G mX12_keep d 0 0 (xE none (wH G b tbM (mKeep S 40) h0)) 12 [some (.ref (b + 0)), some (.int (nI k))] [] (wH G b tbM (upR S 20 f) h0) := by
      intro m
      induction m with
      | zero =>
        intro k f hm hk kk
        refine V_iload_n (pc := 12) (i := 1) dX12_keep_12 rfl rfl ?_
        refine V_aload_n (pc := 13) (i := 0) dX12_keep_13 rfl rfl ?_
        refine VW_getR (pc := 14) dX12_keep_14 fX12_90 (by first | assumption | rfl) rfl ?_
        refine VW_alen (pc := 17) dX12_keep_17 (by first | assumption | rfl) (by decide) rfl ?_
        refine V_icmp_ge (pc := 18) 42 dX12_keep_18 rfl (fun c18 => ?_) (fun c18 => ?_)
        · rw [show k = 1440 by omega]
          exact kk
        · exact absurd (by rw [show k = 1440 by omega]; decide) c18
      | succ m ih =>
        intro k f hm hk kk
        rw [shL] at kk
        refine V_iload_n (pc := 12) (i := 1) dX12_keep_12 rfl rfl ?_
        refine V_aload_n (pc := 13) (i := 0) dX12_keep_13 rfl rfl ?_
        refine VW_getR (pc := 14) dX12_keep_14 fX12_90 (by first | assumption | rfl) rfl ?_
        refine VW_alen (pc := 17) dX12_keep_17 (by first | assumption | rfl) (by decide) rfl ?_
        refine V_icmp_ge (pc := 18) 42 dX12_keep_18 rfl (fun c18 => ?_) (fun c18 => ?_)
        · exact absurd c18 (nI_ge (b := 1440) (by omega) (by decide))
        · refine V_aload_n (pc := 21) (i := 0) dX12_keep_21 rfl rfl ?_
          refine VW_getR (pc := 22) dX12_keep_22 fX12_90 (by first | assumption | rfl) rfl ?_
          refine V_iload_n (pc := 25) (i := 1) dX12_keep_25 rfl rfl ?_
          refine V_bipush (pc := 26) (v := 36) dX12_keep_26 (by decide) ?_
          refine V_isub (pc := 28) dX12_keep_28 ?_
          refine V_aload_n (pc := 29) (i := 0) dX12_keep_29 rfl rfl ?_
          refine VW_getR (pc := 30) dX12_keep_30 fX12_90 (by first | assumption | rfl) rfl ?_
          refine V_iload_n (pc := 33) (i := 1) dX12_keep_33 rfl rfl ?_
          refine VW_ialdN (pc := 34) dX12_keep_34 (by first | assumption | rfl) rfl (by omega) (by first | decide | omega) ?_
          rw [upR_same]
          refine VW_iastN (pc := 35) dX12_keep_35 rfl (by assumption) (j := k - 36) (pk_sub (a := k) (b := 36) (by omega)) (by omega) (by decide) ?_
          rw [up2_upR]
          refine V_iinc (pc := 36) dX12_keep_36 (by decide) rfl rfl (iincN (n := 1) (by decide)) ?_
          refine V_goto (pc := 39) 12 dX12_keep_39 rfl ?_
          exact ih (k + 1) _ (by omega) (by omega) kk
    rw [show wH G b tbM S h0 = wH G b tbM (upR S 20 (S 20)) h0 by rw [upR_self]]
    refine loop 1404 36 (S 20) rfl (by omega) ?_
    obtain ⟨f, hf⟩ : ∃ f : Nat → Int32, ∀ u : Unit, shL 1404 36 (S 20) = f := ⟨_, fun _ => rfl⟩
    rw [hf ()]
    refine V_aload_n (pc := 42) (i := 0) dX12_keep_42 rfl rfl ?_
    refine V_dup (pc := 43) dX12_keep_43 rfl ?_
    refine VW_getI (pc := 44) dX12_keep_44 fX12_307 (by first | assumption | rfl) rfl ?_
    refine V_iconst (pc := 47) (v := 1) dX12_keep_47 (by decide) ?_
    refine V_isub (pc := 48) dX12_keep_48 ?_
    rw [upR_row (by decide), ha, show nI 40 - 1 = nI 39 by decide]
    refine VW_putI (pc := 49) dX12_keep_49 fX12_307 ftX12 (fpI rfl rfl (tyX12_ok 36 (by decide))) (by first | assumption | rfl) rfl (by assumption) ?_
    refine V_aload_n (pc := 52) (i := 0) dX12_keep_52 rfl rfl ?_
    refine V_aload_n (pc := 53) (i := 0) dX12_keep_53 rfl rfl ?_
    refine VW_getR (pc := 54) dX12_keep_54 fX12_90 (by first | assumption | rfl) rfl ?_
    refine V_bipush (pc := 57) (v := 36) dX12_keep_57 (by decide) ?_
    refine V_aload_n (pc := 59) (i := 0) dX12_keep_59 rfl rfl ?_
    refine VW_getI (pc := 60) dX12_keep_60 fX12_307 (by first | assumption | rfl) rfl ?_
    rw [up2_same]
    refine V_imul (pc := 63) dX12_keep_63 ?_
    rw [show (36 : Int32) * nI 39 = nI 1404 by decide]
    refine V_V2v (pc := 64) dX12_keep_64 cX12_387 (by first | assumption | rfl) (X12_pack (d := 0) (r := 20) (N := 1440) rfl (by decide) (by decide) (by decide) hb) (Nat.le_of_ble_eq_true rfl) (by omega) (Nat.le_of_ble_eq_true rfl) ?_
    rw [upR_up2 (by decide), up2_row (show (20 : Nat) ≠ 0 by decide), upR_same, pkR_eq (S := S) (fun j h1 h2 => by rw [up2_col (by omega), upR_row (by decide)]) (by rw [up2_row (by decide), upR_row (by decide)]) (by rw [up2_row (by decide), upR_row (by decide)]) (by rw [up2_row (by decide), upR_row (by decide)]) (by rw [up2_row (by decide), upR_row (by decide)])]
    refine V_aload_n (pc := 67) (i := 0) dX12_keep_67 rfl rfl ?_
    refine V_dup (pc := 68) dX12_keep_68 rfl ?_
    refine VW_getI (pc := 69) dX12_keep_69 fX12_307 (by first | assumption | rfl) rfl ?_
    rw [up2_same]
    refine V_iconst (pc := 72) (v := 1) dX12_keep_72 (by decide) ?_
    refine V_iadd (pc := 73) dX12_keep_73 ?_
    refine VW_putI (pc := 74) dX12_keep_74 fX12_307 ftX12 (fpI rfl rfl (tyX12_ok 36 (by decide))) (by first | assumption | rfl) rfl (by assumption) ?_
    rw [up2_up2]
    exact VE_vret (pc := 77) dX12_keep_77 rfl (by rw [mKeep, mKeepR, if_neg (by decide), if_neg (by decide), hf ()]; rfl)
theorem X12_refuse {k : Nat} (hk : k < 3) (hb : gB G ≤ b) : VM G mX12_refuse d 0 0 [.ref (b + 0), .int (nI k)] (xE (some (.int (-1))) (wH G b tbM (up2 S 14 k (S 14 k + 1)) h0)) (wH G b tbM S h0) := by
  refine VM_start (ls := [some (.ref (b + 0)), some (.int (nI k))]) rfl ?_
  -- %m X12_refuse
  refine V_aload_n (pc := 0) (i := 0) dX12_refuse_0 rfl rfl ?_
  refine VW_getR (pc := 1) dX12_refuse_1 fX12_70 (by first | assumption | rfl) rfl ?_
  refine V_iload_n (pc := 4) (i := 1) dX12_refuse_4 rfl rfl ?_
  refine V_dup2 (pc := 5) dX12_refuse_5 rfl rfl ?_
  refine VW_ialdN (pc := 6) dX12_refuse_6 (by first | assumption | rfl) rfl (by omega) (by first | decide | omega) ?_
  refine V_iconst (pc := 7) (v := 1) dX12_refuse_7 (by decide) ?_
  refine V_iadd (pc := 8) dX12_refuse_8 ?_
  refine VW_iastN (pc := 9) dX12_refuse_9 (by first | assumption | rfl) (by assumption) rfl (by omega) (by first | decide | omega) ?_
  refine V_iconst (pc := 10) (v := -1) dX12_refuse_10 (by decide) ?_
  exact VE_iret (pc := 11) dX12_refuse_11 rfl rfl rfl
end M4
