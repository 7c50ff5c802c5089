/-! ===== Sets: what is asked of all sets of THINGS ===== -/
section Sts
variable {G : xG} {d bc bs : Nat} {b : Nat} {S : Nat → Nat → Int32} {h0 h : xH}
/-- GIVES are THINGS -/
def GvOk (gv : Nat → Int32) (n : Nat) : Prop := ∀ i, i < n → ∃ g, g < 10 ∧ gv i = nI g
theorem cF_cases {ki n : Nat} {dn t : Int32} : cF S ki n dn t = -1 ∨ ∃ j, j < n ∧ cF S ki n dn t = nI j := by
  rcases fst1_lt (P := brg (S (ki + 1)) (S (ki + 2)) (S (ki + 3)) (S ki 3) dn t) n 0 with h1 | ⟨j, -, h2, h3, -⟩
  · exact Or.inl h1
  · exact Or.inr ⟨j, by omega, h3⟩
theorem nI_m1 {j : Nat} (h : j < 2 ^ 31) : ¬ nI j = -1 := fun q => nI_pos h (by rw [q]; decide)
/-- what comes of all sets, the greatest first: m are left -/
def fillS (F : Int32 → Int32) (gv : Nat → Int32) : Nat → (Nat → Int32) → Nat → Int32
  | 0, f => f
  | m + 1, f => fillS F gv m (upd f m (if F (nI m) = -1 then nI m else f (nI m ||| 1 <<< (gv (F (nI m)).toNatClampNeg &&& 31)).toNatClampNeg))
theorem X6_fill {ki n : Nat} (hi : IfsAt tbC ki) (hki : ki + 4 ≤ 40 ∨ 43 ≤ ki) (hn : S ki 4 = nI n) (h12 : n ≤ 12) (hg : GvOk (S (ki + 3)) n) (dn : Int32) (hb : gB G ≤ b) (hd : 2 ≤ d) :
    VM G mX6_fill d 0 0 [.ref (b + 40), .ref (b + ki), .int dn] (xE none (wH G b tbC (upR S 41 (fillS (cF S ki n dn) (S (ki + 3)) 1024 (S 41))) h0)) (wH G b tbC S h0) := by
  obtain ⟨k0, k1, k2, k3⟩ := id hi
  refine VM_start (ls := [some (.ref (b + 40)), some (.ref (b + ki)), some (.int dn), none, none]) rfl ?_
  have e0 : wH G b tbC S h0 = wH G b tbC (upR S 41 (S 41)) h0 := by
    congr 1
    funext k' j
    by_cases h : k' = 41
    · subst h; rw [upR_same]
    · rw [upR_row h]
  -- %m X6_fill
  refine V_sipush (pc := 0) (v := 1023) dX6_fill_0 (by decide) ?_
  refine V_istore_n (pc := 3) (i := 3) dX6_fill_3 rfl (by decide) rfl ?_
  have loop : ∀ (m : Nat) (f : Nat → Int32) (z : Int32), m ≤ 1024 → nI m + -1 = z → V G mX6_fill d 0 0 (xE none (wH G b tbC (upR S 41 (fillS (cF S ki n dn) (S (ki + 3)) m f)) h0)) 4 [some (.ref (b + 40)), some (.ref (b + ki)), some (.int dn), some (.int z), none] [] (wH G b tbC (upR S 41 f) h0) := by
    intro m
    induction m with
    | zero =>
      intro f z hm hz
      refine V_iload_n (pc := 4) (i := 3) dX6_fill_4 rfl rfl ?_
      refine V_if_lt (pc := 5) 55 dX6_fill_5 rfl (fun c5 => ?_) (fun c5 => ?_)
      · exact VE_vret (pc := 55) dX6_fill_55 rfl rfl
      · exact absurd (by rw [← hz]; decide) c5
    | succ m ih =>
      intro f z hm hz
      rw [pk_m1] at hz
      subst hz
      rw [fillS]
      have hcf : cF (upR S 41 f) ki n dn = cF S ki n dn := cF_upR (by omega)
      have hn2 : upR S 41 f ki 4 = nI n := by rw [upR_row (by omega)]; exact hn
      have fin : ∀ v : Int32, (if cF S ki n dn (nI m) = -1 then nI m else f (nI m ||| 1 <<< (S (ki + 3) (cF S ki n dn (nI m)).toNatClampNeg &&& 31)).toNatClampNeg) = v → V G mX6_fill d 0 0 (xE none (wH G b tbC (upR S 41 (fillS (cF S ki n dn) (S (ki + 3)) m (upd f m (if cF S ki n dn (nI m) = -1 then nI m else f (nI m ||| 1 <<< (S (ki + 3) (cF S ki n dn (nI m)).toNatClampNeg &&& 31)).toNatClampNeg)))) h0)) 48 [some (.ref (b + 40)), some (.ref (b + ki)), some (.int dn), some (.int (nI m)), none] [.int v, .int (nI m), .ref (b + 41)] (wH G b tbC (upR S 41 f) h0) := by
        intro v hv
        rw [hv]
        refine VW_iastN (pc := 48) dX6_fill_48 (by first | assumption | rfl) (by assumption) rfl (by omega) (by first | decide | omega) ?_
        rw [up2_upR]
        refine V_iinc (pc := 49) dX6_fill_49 (by decide) rfl rfl (v := nI m + -1) rfl ?_
        refine V_goto (pc := 52) 4 dX6_fill_52 rfl ?_
        exact ih _ _ (by omega) rfl
      refine V_iload_n (pc := 4) (i := 3) dX6_fill_4 rfl rfl ?_
      refine V_if_lt (pc := 5) 55 dX6_fill_5 rfl (fun c5 => ?_) (fun c5 => ?_)
      · exact absurd c5 (nI_pos (by omega))
      · refine V_aload_n (pc := 8) (i := 1) dX6_fill_8 rfl rfl ?_
        refine V_iload_n (pc := 9) (i := 3) dX6_fill_9 rfl rfl ?_
        refine V_iload_n (pc := 10) (i := 2) dX6_fill_10 rfl rfl ?_
        refine V_iconst (pc := 11) (v := 0) dX6_fill_11 (by decide) ?_
        refine V_V3i (pc := 12) dX6_fill_12 cX6_18 (by first | assumption | rfl) (X1_firstBringing (i0 := 0) (d := 1) hi hn2 h12 (Nat.zero_le _) (by omega) _ _) (Nat.le_of_ble_eq_true rfl) (by omega) (Nat.le_of_ble_eq_true rfl) ?_
        have hF : fst1 (brg (upR S 41 f (ki + 1)) (upR S 41 f (ki + 2)) (upR S 41 f (ki + 3)) (upR S 41 f ki 3) dn (nI m)) (n - 0) 0 = cF S ki n dn (nI m) := by rw [← hcf]; rfl
        rw [hF]
        refine V_istore (pc := 15) dX6_fill_15 (by decide) rfl ?_
        refine V_aload_n (pc := 17) (i := 0) dX6_fill_17 rfl rfl ?_
        refine VW_getR (pc := 18) dX6_fill_18 fX6_9 (by first | assumption | rfl) rfl ?_
        refine V_iload_n (pc := 21) (i := 3) dX6_fill_21 rfl rfl ?_
        refine V_iload (pc := 22) dX6_fill_22 rfl ?_
        refine V_iconst (pc := 24) (v := -1) dX6_fill_24 (by decide) ?_
        refine V_icmp_ne (pc := 25) 32 dX6_fill_25 rfl (fun c25 => ?_) (fun c25 => ?_)
        · obtain ⟨j, hj, ec⟩ := (cF_cases (S := S) (ki := ki) (n := n) (dn := dn) (t := nI m)).resolve_left c25
          obtain ⟨g, hg1, eg⟩ := hg j hj
          refine V_aload_n (pc := 32) (i := 0) dX6_fill_32 rfl rfl ?_
          refine VW_getR (pc := 33) dX6_fill_33 fX6_9 (by first | assumption | rfl) rfl ?_
          refine V_iload_n (pc := 36) (i := 3) dX6_fill_36 rfl rfl ?_
          refine V_iconst (pc := 37) (v := 1) dX6_fill_37 (by decide) ?_
          refine V_aload_n (pc := 38) (i := 1) dX6_fill_38 rfl rfl ?_
          refine VW_getR (pc := 39) dX6_fill_39 fX6_24 (by first | assumption | rfl) rfl ?_
          refine V_iload (pc := 42) dX6_fill_42 rfl ?_
          refine VW_ialdN (pc := 44) dX6_fill_44 (by first | assumption | rfl) ec (by omega) (by first | decide | omega) ?_
          rw [upR_row (by omega), eg]
          refine V_ishl (pc := 45) dX6_fill_45 ?_
          refine V_ior (pc := 46) dX6_fill_46 ?_
          rw [or_shl hg1]
          refine VW_ialdN (pc := 47) dX6_fill_47 (by first | assumption | rfl) rfl (or_lt (by omega) hg1) (by first | decide | omega) ?_
          (try rw [upR_same])
          refine V_forget 4 (fin _ ?_)
          first
            | rw [if_pos c25]
            | (rw [if_neg c25, ec, nI_clamp (by omega), eg, or_shl hg1, nI_clamp (by have := or_lt (t := m) (by omega) hg1; omega)])
        · refine V_iload_n (pc := 28) (i := 3) dX6_fill_28 rfl rfl ?_
          refine V_goto (pc := 29) 48 dX6_fill_29 rfl ?_
          (try rw [upR_same])
          refine V_forget 4 (fin _ ?_)
          first
            | rw [if_pos c25]
            | (rw [if_neg c25, ec, nI_clamp (by omega), eg, or_shl hg1, nI_clamp (by have := or_lt (t := m) (by omega) hg1; omega)])
  rw [e0]
  exact loop 1024 _ _ (Nat.le_refl _) (by decide)
/-- how many from i on, of m, have it -/
def cntS (f : Nat → Int32) (t : Int32) : Nat → Nat → Int32 → Int32
  | 0, _, x => x
  | m + 1, i, x => cntS f t m (i + 1) (if hasB (f i) t then x + 1 else x)
theorem X6_howManyBring {ki n : Nat} (hi : IfsAt tbC ki) (hki : ki + 4 ≤ 40 ∨ 43 ≤ ki) (hn : S ki 4 = nI n) (h12 : n ≤ 12) (hg : GvOk (S (ki + 3)) n) (dn t : Int32) (hb : gB G ≤ b) (hd : 3 ≤ d) :
    VM G mX6_howManyBring d 0 0 [.ref (b + 40), .ref (b + ki), .int dn, .int t] (xE (some (.int (cntS (fillS (cF S ki n dn) (S (ki + 3)) 1024 (S 41)) t 1024 0 0))) (wH G b tbC (upR S 41 (fillS (cF S ki n dn) (S (ki + 3)) 1024 (S 41))) h0)) (wH G b tbC S h0) := by
  obtain ⟨k0, k1, k2, k3⟩ := id hi
  refine VM_start (ls := [some (.ref (b + 40)), some (.ref (b + ki)), some (.int dn), some (.int t), none, none]) rfl ?_
  -- %m X6_howManyBring
  refine V_aload_n (pc := 0) (i := 0) dX6_howManyBring_0 rfl rfl ?_
  refine V_aload_n (pc := 1) (i := 1) dX6_howManyBring_1 rfl rfl ?_
  refine V_iload_n (pc := 2) (i := 2) dX6_howManyBring_2 rfl rfl ?_
  refine V_V2v (pc := 3) dX6_howManyBring_3 cX6_27 (by first | assumption | rfl) (X6_fill (d := 2) hi hki hn h12 hg _ hb (by omega)) (Nat.le_of_ble_eq_true rfl) (by omega) (Nat.le_of_ble_eq_true rfl) ?_
  refine V_iconst (pc := 6) (v := 0) dX6_howManyBring_6 (by decide) ?_
  refine V_istore (pc := 7) dX6_howManyBring_7 (by decide) rfl ?_
  refine V_iconst (pc := 9) (v := 0) dX6_howManyBring_9 (by decide) ?_
  refine V_istore (pc := 10) dX6_howManyBring_10 (by decide) rfl ?_
  generalize fillS (cF S ki n dn) (S (ki + 3)) 1024 (S 41) = f
  have loop : ∀ (m i : Nat) (x : Int32), m + i = 1024 → V G mX6_howManyBring d 0 0 (xE (some (.int (cntS f t m i x))) (wH G b tbC (upR S 41 f) h0)) 12 [some (.ref (b + 40)), some (.ref (b + ki)), some (.int dn), some (.int t), some (.int x), some (.int (nI i))] [] (wH G b tbC (upR S 41 f) h0) := by
    intro m
    induction m with
    | zero =>
      intro i x hm
      refine V_iload (pc := 12) dX6_howManyBring_12 rfl ?_
      refine V_sipush (pc := 14) (v := 1024) dX6_howManyBring_14 (by decide) ?_
      refine V_icmp_ge (pc := 17) 43 dX6_howManyBring_17 rfl (fun c17 => ?_) (fun c17 => ?_)
      · refine V_iload (pc := 43) dX6_howManyBring_43 rfl ?_
        exact VE_iret (pc := 45) dX6_howManyBring_45 rfl rfl rfl
      · exact absurd (by rw [show i = 1024 by omega]; decide) c17
    | succ m ih =>
      intro i x hm
      rw [cntS]
      refine V_iload (pc := 12) dX6_howManyBring_12 rfl ?_
      refine V_sipush (pc := 14) (v := 1024) dX6_howManyBring_14 (by decide) ?_
      refine V_icmp_ge (pc := 17) 43 dX6_howManyBring_17 rfl (fun c17 => ?_) (fun c17 => ?_)
      · exact absurd c17 (nI_ge (b := 1024) (by omega) (by decide))
      · refine V_iload_n (pc := 20) (i := 3) dX6_howManyBring_20 rfl rfl ?_
        refine V_aload_n (pc := 21) (i := 0) dX6_howManyBring_21 rfl rfl ?_
        refine VW_getR (pc := 22) dX6_howManyBring_22 fX6_9 (by first | assumption | rfl) rfl ?_
        refine V_iload (pc := 25) dX6_howManyBring_25 rfl ?_
        refine VW_ialdN (pc := 27) dX6_howManyBring_27 (by first | assumption | rfl) rfl (by omega) (by first | decide | omega) ?_
        rw [upR_same]
        refine V_SN2i (pc := 28) dX6_howManyBring_28 cX6_31 (X11_isIn (d := 0) _ _) (Nat.le_of_ble_eq_true rfl) (by omega) (Nat.le_of_ble_eq_true rfl) ?_
        refine V_if_eq (pc := 31) 37 dX6_howManyBring_31 rfl (fun c31 => ?_) (fun c31 => ?_)
        · rw [if_neg (by rw [b2i_0.mp c31]; decide)]
          refine V_iinc (pc := 37) dX6_howManyBring_37 (by decide) rfl rfl (iincN (n := 1) (by decide)) ?_
          refine V_goto (pc := 40) 12 dX6_howManyBring_40 rfl ?_
          exact ih (i + 1) _ (by omega)
        · rw [if_pos (b2i_n0.mp c31)]
          refine V_iinc (pc := 34) dX6_howManyBring_34 (by decide) rfl rfl (v := x + 1) rfl ?_
          refine V_iinc (pc := 37) dX6_howManyBring_37 (by decide) rfl rfl (iincN (n := 1) (by decide)) ?_
          refine V_goto (pc := 40) 12 dX6_howManyBring_40 rfl ?_
          exact ih (i + 1) _ (by omega)
  exact loop 1024 0 0 rfl
end Sts
