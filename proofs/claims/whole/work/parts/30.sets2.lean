/-! ===== Sets: IDLE, the fewest steps ===== -/
section Sts2
variable {G : xG} {d bc bs : Nat} {b : Nat} {S : Nat → Nat → Int32} {h0 h : xH}
/-- the class's first IF from i0 on that brings something -/
def cFf (S : Nat → Nat → Int32) (ki n : Nat) (dn t : Int32) (i0 : Nat) : Int32 := fst1 (brg (S (ki + 1)) (S (ki + 2)) (S (ki + 3)) (S ki 3) dn t) (n - i0) i0
theorem cFf_cases {ki n i0 : Nat} {dn t : Int32} : cFf S ki n dn t i0 = -1 ∨ ∃ j, i0 ≤ j ∧ j < n ∧ cFf S ki n dn t i0 = nI j := by
  rcases fst1_lt (P := brg (S (ki + 1)) (S (ki + 2)) (S (ki + 3)) (S ki 3) dn t) (n - i0) i0 with h1 | ⟨j, h0, h2, h3, -⟩
  · exact Or.inl h1
  · exact Or.inr ⟨j, h0, by omega, h3⟩
theorem cFf_upR {ki n k' : Nat} {r : Nat → Int32} {dn t : Int32} {i0 : Nat} (h1 : k' < ki ∨ ki + 3 < k') : cFf (upR S k' r) ki n dn t i0 = cFf S ki n dn t i0 := by
  simp (disch := omega) only [cFf, upR_row]
/-- IDLE: m sets from i on, x so far; f tells what comes of all -/
def idlF (F : Int32 → Nat → Int32) (gv f : Nat → Int32) : Nat → Nat → Int32 → Int32
  | 0, _, x => x
  | m + 1, i, x => idlF F gv f m (i + 1) (if F (nI i) 0 = -1 then x else
      if (if F (nI i) ((F (nI i) 0).toNatClampNeg + 1) = -1 then nI i else f (nI i ||| 1 <<< (gv (F (nI i) ((F (nI i) 0).toNatClampNeg + 1)).toNatClampNeg &&& 31)).toNatClampNeg) = f i then x else x &&& (1 <<< (F (nI i) 0 &&& 31) ^^^ -1))
theorem X6_idleIfs {ki n : Nat} (hi : IfsAt tbC ki) (hki : ki + 4 ≤ 40 ∨ 43 ≤ ki) (hn : S ki 4 = nI n) (h12 : n ≤ 12) (hg : GvOk (S (ki + 3)) n) (dn : Int32) (hb : gB G ≤ b) (hd : 3 ≤ d) :
    VM G mX6_idleIfs d 0 0 [.ref (b + 40), .ref (b + ki), .int dn] (xE (some (.int (idlF (cFf S ki n dn) (S (ki + 3)) (fillS (cF S ki n dn) (S (ki + 3)) 1024 (S 41)) 1024 0 ((1 <<< (nI n &&& 31) - 1) &&& (dn ^^^ -1))))) (wH G b tbC (upR S 41 (fillS (cF S ki n dn) (S (ki + 3)) 1024 (S 41))) h0)) (wH G b tbC S h0) := by
  obtain ⟨k0, k1, k2, k3⟩ := id hi
  refine VM_start (ls := [some (.ref (b + 40)), some (.ref (b + ki)), some (.int dn), none, none, none, none, none]) rfl ?_
  -- %m X6_idleIfs
  refine V_aload_n (pc := 0) (i := 0) dX6_idleIfs_0 rfl rfl ?_
  refine V_aload_n (pc := 1) (i := 1) dX6_idleIfs_1 rfl rfl ?_
  refine V_iload_n (pc := 2) (i := 2) dX6_idleIfs_2 rfl rfl ?_
  refine V_V2v (pc := 3) dX6_idleIfs_3 cX6_27 (by first | assumption | rfl) (X6_fill (d := 2) hi hki hn h12 hg _ hb (by omega)) (Nat.le_of_ble_eq_true rfl) (by omega) (Nat.le_of_ble_eq_true rfl) ?_
  refine V_iconst (pc := 6) (v := 1) dX6_idleIfs_6 (by decide) ?_
  refine V_aload_n (pc := 7) (i := 1) dX6_idleIfs_7 rfl rfl ?_
  refine VW_getI (pc := 8) dX6_idleIfs_8 fX6_35 (by first | assumption | rfl) rfl ?_
  generalize fillS (cF S ki n dn) (S (ki + 3)) 1024 (S 41) = f
  rw [upR_row (by omega), hn]
  refine V_ishl (pc := 11) dX6_idleIfs_11 ?_
  refine V_iconst (pc := 12) (v := 1) dX6_idleIfs_12 (by decide) ?_
  refine V_isub (pc := 13) dX6_idleIfs_13 ?_
  refine V_iload_n (pc := 14) (i := 2) dX6_idleIfs_14 rfl rfl ?_
  refine V_iconst (pc := 15) (v := -1) dX6_idleIfs_15 (by decide) ?_
  refine V_ixor (pc := 16) dX6_idleIfs_16 ?_
  refine V_iand (pc := 17) dX6_idleIfs_17 ?_
  refine V_istore_n (pc := 18) (i := 3) dX6_idleIfs_18 rfl (by decide) rfl ?_
  refine V_iconst (pc := 19) (v := 0) dX6_idleIfs_19 (by decide) ?_
  refine V_istore (pc := 20) dX6_idleIfs_20 (by decide) rfl ?_
  have hn2 : upR S 41 f ki 4 = nI n := by rw [upR_row (by omega)]; exact hn
  have loop : ∀ (m i : Nat) (x : Int32), m + i = 1024 → V G mX6_idleIfs d 0 0 (xE (some (.int (idlF (cFf S ki n dn) (S (ki + 3)) f m i x))) (wH G b tbC (upR S 41 f) h0)) 22 [some (.ref (b + 40)), some (.ref (b + ki)), some (.int dn), some (.int x), some (.int (nI i)), none, none, none] [] (wH G b tbC (upR S 41 f) h0) := by
    intro m
    induction m with
    | zero =>
      intro i x hm
      refine V_iload (pc := 22) dX6_idleIfs_22 rfl ?_
      refine V_sipush (pc := 24) (v := 1024) dX6_idleIfs_24 (by decide) ?_
      refine V_icmp_ge (pc := 27) 119 dX6_idleIfs_27 rfl (fun c27 => ?_) (fun c27 => ?_)
      · refine V_iload_n (pc := 119) (i := 3) dX6_idleIfs_119 rfl rfl ?_
        exact VE_iret (pc := 120) dX6_idleIfs_120 rfl rfl rfl
      · exact absurd (by rw [show i = 1024 by omega]; decide) c27
    | succ m ih =>
      intro i x hm
      rw [idlF]
      have hF : ∀ i0 : Nat, fst1 (brg (upR S 41 f (ki + 1)) (upR S 41 f (ki + 2)) (upR S 41 f (ki + 3)) (upR S 41 f ki 3) dn (nI i)) (n - i0) i0 = cFf S ki n dn (nI i) i0 := fun i0 => by rw [← cFf_upR (k' := 41) (r := f) (by omega)]; rfl
      refine V_iload (pc := 22) dX6_idleIfs_22 rfl ?_
      refine V_sipush (pc := 24) (v := 1024) dX6_idleIfs_24 (by decide) ?_
      refine V_icmp_ge (pc := 27) 119 dX6_idleIfs_27 rfl (fun c27 => ?_) (fun c27 => ?_)
      · exact absurd c27 (nI_ge (b := 1024) (by omega) (by decide))
      · refine V_aload_n (pc := 30) (i := 1) dX6_idleIfs_30 rfl rfl ?_
        refine V_iload (pc := 31) dX6_idleIfs_31 rfl ?_
        refine V_iload_n (pc := 33) (i := 2) dX6_idleIfs_33 rfl rfl ?_
        refine V_iconst (pc := 34) (v := 0) dX6_idleIfs_34 (by decide) ?_
        refine V_V3i (pc := 35) dX6_idleIfs_35 cX6_18 (by first | assumption | rfl) (X1_firstBringing (i0 := 0) (d := 1) hi hn2 h12 (Nat.zero_le _) (by omega) _ _) (Nat.le_of_ble_eq_true rfl) (by omega) (Nat.le_of_ble_eq_true rfl) ?_
        rw [hF 0]
        refine V_istore (pc := 38) dX6_idleIfs_38 (by decide) rfl ?_
        refine V_iload (pc := 40) dX6_idleIfs_40 rfl ?_
        refine V_iconst (pc := 42) (v := -1) dX6_idleIfs_42 (by decide) ?_
        refine V_icmp_ne (pc := 43) 49 dX6_idleIfs_43 rfl (fun c43 => ?_) (fun c43 => ?_)
        · obtain ⟨j, -, hj, ej⟩ := (cFf_cases (S := S) (ki := ki) (n := n) (dn := dn) (t := nI i) (i0 := 0)).resolve_left c43
          rw [if_neg c43, ej, nI_clamp (by omega)]
          refine V_aload_n (pc := 49) (i := 1) dX6_idleIfs_49 rfl rfl ?_
          refine V_iload (pc := 50) dX6_idleIfs_50 rfl ?_
          refine V_iload_n (pc := 52) (i := 2) dX6_idleIfs_52 rfl rfl ?_
          refine V_iload (pc := 53) dX6_idleIfs_53 rfl ?_
          refine V_iconst (pc := 55) (v := 1) dX6_idleIfs_55 (by decide) ?_
          refine V_iadd (pc := 56) dX6_idleIfs_56 ?_
          rw [nI_1]
          refine V_V3i (pc := 57) dX6_idleIfs_57 cX6_18 (by first | assumption | rfl) (X1_firstBringing (i0 := j + 1) (d := 1) hi hn2 h12 (by omega) (by omega) _ _) (Nat.le_of_ble_eq_true rfl) (by omega) (Nat.le_of_ble_eq_true rfl) ?_
          rw [hF (j + 1)]
          refine V_istore (pc := 60) dX6_idleIfs_60 (by decide) rfl ?_
          refine V_iload (pc := 62) dX6_idleIfs_62 rfl ?_
          refine V_iconst (pc := 64) (v := -1) dX6_idleIfs_64 (by decide) ?_
          refine V_icmp_ne (pc := 65) 73 dX6_idleIfs_65 rfl (fun c65 => ?_) (fun c65 => ?_)
          · obtain ⟨j2, -, hj2, ec⟩ := (cFf_cases (S := S) (ki := ki) (n := n) (dn := dn) (t := nI i) (i0 := j + 1)).resolve_left c65
            obtain ⟨g, hg1, eg⟩ := hg j2 hj2
            refine V_aload_n (pc := 73) (i := 0) dX6_idleIfs_73 rfl rfl ?_
            refine VW_getR (pc := 74) dX6_idleIfs_74 fX6_9 (by first | assumption | rfl) rfl ?_
            refine V_iload (pc := 77) dX6_idleIfs_77 rfl ?_
            refine V_iconst (pc := 79) (v := 1) dX6_idleIfs_79 (by decide) ?_
            refine V_aload_n (pc := 80) (i := 1) dX6_idleIfs_80 rfl rfl ?_
            refine VW_getR (pc := 81) dX6_idleIfs_81 fX6_24 (by first | assumption | rfl) rfl ?_
            refine V_iload (pc := 84) dX6_idleIfs_84 rfl ?_
            refine VW_ialdN (pc := 86) dX6_idleIfs_86 (by first | assumption | rfl) ec (by omega) (by first | decide | omega) ?_
            rw [upR_row (by omega), eg]
            refine V_ishl (pc := 87) dX6_idleIfs_87 ?_
            refine V_ior (pc := 88) dX6_idleIfs_88 ?_
            rw [or_shl hg1]
            refine VW_ialdN (pc := 89) dX6_idleIfs_89 (by first | assumption | rfl) rfl (or_lt (by omega) hg1) (by first | decide | omega) ?_
            (try rw [upR_same])
            have fin : ∀ v : Int32, (if cFf S ki n dn (nI i) (j + 1) = -1 then nI i else f (nI i ||| 1 <<< (S (ki + 3) (cFf S ki n dn (nI i) (j + 1)).toNatClampNeg &&& 31)).toNatClampNeg) = v → V G mX6_idleIfs d 0 0 (xE (some (.int (idlF (cFf S ki n dn) (S (ki + 3)) f m (i + 1) (if (if cFf S ki n dn (nI i) (j + 1) = -1 then nI i else f (nI i ||| 1 <<< (S (ki + 3) (cFf S ki n dn (nI i) (j + 1)).toNatClampNeg &&& 31)).toNatClampNeg) = f i then x else x &&& (1 <<< (nI j &&& 31) ^^^ -1))))) (wH G b tbC (upR S 41 f) h0)) 90 [some (.ref (b + 40)), some (.ref (b + ki)), some (.int dn), some (.int x), some (.int (nI i)), some (.int (nI j)), none, none] [.int v] (wH G b tbC (upR S 41 f) h0) := by
              intro v hv
              rw [hv]
              refine V_istore (pc := 90) dX6_idleIfs_90 (by decide) rfl ?_
              refine V_iload (pc := 92) dX6_idleIfs_92 rfl ?_
              refine V_aload_n (pc := 94) (i := 0) dX6_idleIfs_94 rfl rfl ?_
              refine VW_getR (pc := 95) dX6_idleIfs_95 fX6_9 (by first | assumption | rfl) rfl ?_
              refine V_iload (pc := 98) dX6_idleIfs_98 rfl ?_
              refine VW_ialdN (pc := 100) dX6_idleIfs_100 (by first | assumption | rfl) rfl (by omega) (by first | decide | omega) ?_
              rw [upR_same]
              refine V_icmp_eq (pc := 101) 113 dX6_idleIfs_101 rfl (fun c101 => ?_) (fun c101 => ?_)
              · rw [if_pos c101]
                refine V_iinc (pc := 113) dX6_idleIfs_113 (by decide) rfl rfl (iincN (n := 1) (by decide)) ?_
                refine V_goto (pc := 116) 22 dX6_idleIfs_116 rfl ?_
                exact V_forget 5 (V_forget 7 (ih (i + 1) _ (by omega)))
              · rw [if_neg c101]
                refine V_iload_n (pc := 104) (i := 3) dX6_idleIfs_104 rfl rfl ?_
                refine V_iconst (pc := 105) (v := 1) dX6_idleIfs_105 (by decide) ?_
                refine V_iload (pc := 106) dX6_idleIfs_106 rfl ?_
                refine V_ishl (pc := 108) dX6_idleIfs_108 ?_
                refine V_iconst (pc := 109) (v := -1) dX6_idleIfs_109 (by decide) ?_
                refine V_ixor (pc := 110) dX6_idleIfs_110 ?_
                refine V_iand (pc := 111) dX6_idleIfs_111 ?_
                refine V_istore_n (pc := 112) (i := 3) dX6_idleIfs_112 rfl (by decide) rfl ?_
                refine V_iinc (pc := 113) dX6_idleIfs_113 (by decide) rfl rfl (iincN (n := 1) (by decide)) ?_
                refine V_goto (pc := 116) 22 dX6_idleIfs_116 rfl ?_
                exact V_forget 5 (V_forget 7 (ih (i + 1) _ (by omega)))
            refine V_forget 6 (fin _ ?_)
            first
              | rw [if_pos c65]
              | (rw [if_neg c65, ec, nI_clamp (by omega), eg, or_shl hg1, nI_clamp (by have := or_lt (t := i) (by omega) hg1; omega)])
          · refine V_iload (pc := 68) dX6_idleIfs_68 rfl ?_
            refine V_goto (pc := 70) 90 dX6_idleIfs_70 rfl ?_
            (try rw [upR_same])
            have fin : ∀ v : Int32, (if cFf S ki n dn (nI i) (j + 1) = -1 then nI i else f (nI i ||| 1 <<< (S (ki + 3) (cFf S ki n dn (nI i) (j + 1)).toNatClampNeg &&& 31)).toNatClampNeg) = v → V G mX6_idleIfs d 0 0 (xE (some (.int (idlF (cFf S ki n dn) (S (ki + 3)) f m (i + 1) (if (if cFf S ki n dn (nI i) (j + 1) = -1 then nI i else f (nI i ||| 1 <<< (S (ki + 3) (cFf S ki n dn (nI i) (j + 1)).toNatClampNeg &&& 31)).toNatClampNeg) = f i then x else x &&& (1 <<< (nI j &&& 31) ^^^ -1))))) (wH G b tbC (upR S 41 f) h0)) 90 [some (.ref (b + 40)), some (.ref (b + ki)), some (.int dn), some (.int x), some (.int (nI i)), some (.int (nI j)), none, none] [.int v] (wH G b tbC (upR S 41 f) h0) := by
              intro v hv
              rw [hv]
              refine V_istore (pc := 90) dX6_idleIfs_90 (by decide) rfl ?_
              refine V_iload (pc := 92) dX6_idleIfs_92 rfl ?_
              refine V_aload_n (pc := 94) (i := 0) dX6_idleIfs_94 rfl rfl ?_
              refine VW_getR (pc := 95) dX6_idleIfs_95 fX6_9 (by first | assumption | rfl) rfl ?_
              refine V_iload (pc := 98) dX6_idleIfs_98 rfl ?_
              refine VW_ialdN (pc := 100) dX6_idleIfs_100 (by first | assumption | rfl) rfl (by omega) (by first | decide | omega) ?_
              rw [upR_same]
              refine V_icmp_eq (pc := 101) 113 dX6_idleIfs_101 rfl (fun c101 => ?_) (fun c101 => ?_)
              · rw [if_pos c101]
                refine V_iinc (pc := 113) dX6_idleIfs_113 (by decide) rfl rfl (iincN (n := 1) (by decide)) ?_
                refine V_goto (pc := 116) 22 dX6_idleIfs_116 rfl ?_
                exact V_forget 5 (V_forget 7 (ih (i + 1) _ (by omega)))
              · rw [if_neg c101]
                refine V_iload_n (pc := 104) (i := 3) dX6_idleIfs_104 rfl rfl ?_
                refine V_iconst (pc := 105) (v := 1) dX6_idleIfs_105 (by decide) ?_
                refine V_iload (pc := 106) dX6_idleIfs_106 rfl ?_
                refine V_ishl (pc := 108) dX6_idleIfs_108 ?_
                refine V_iconst (pc := 109) (v := -1) dX6_idleIfs_109 (by decide) ?_
                refine V_ixor (pc := 110) dX6_idleIfs_110 ?_
                refine V_iand (pc := 111) dX6_idleIfs_111 ?_
                refine V_istore_n (pc := 112) (i := 3) dX6_idleIfs_112 rfl (by decide) rfl ?_
                refine V_iinc (pc := 113) dX6_idleIfs_113 (by decide) rfl rfl (iincN (n := 1) (by decide)) ?_
                refine V_goto (pc := 116) 22 dX6_idleIfs_116 rfl ?_
                exact V_forget 5 (V_forget 7 (ih (i + 1) _ (by omega)))
            refine V_forget 6 (fin _ ?_)
            first
              | rw [if_pos c65]
              | (rw [if_neg c65, ec, nI_clamp (by omega), eg, or_shl hg1, nI_clamp (by have := or_lt (t := i) (by omega) hg1; omega)])
        · rw [if_pos c43]
          refine V_goto (pc := 46) 113 dX6_idleIfs_46 rfl ?_
          refine V_iinc (pc := 113) dX6_idleIfs_113 (by decide) rfl rfl (iincN (n := 1) (by decide)) ?_
          refine V_goto (pc := 116) 22 dX6_idleIfs_116 rfl ?_
          exact V_forget 5 (ih (i + 1) _ (by omega))
  exact loop 1024 0 _ rfl
/-- the sets that are reached from t by one IF: m times at most, from the IF o on -/
def rchF (F : Nat → Int32) (gv : Nat → Int32) (t : Int32) : Nat → Int32 → (Nat → Int32) → Nat → Int32
  | 0, _, r => r
  | m + 1, o, r => if o = -1 then r else rchF F gv t m (F (o.toNatClampNeg + 1)) (upd r (t ||| 1 <<< (gv o.toNatClampNeg &&& 31)).toNatClampNeg 1)
theorem X6_reachOn {ki n i : Nat} (hi : IfsAt tbC ki) (hki : ki + 4 ≤ 40 ∨ 43 ≤ ki) (hn : S ki 4 = nI n) (h12 : n ≤ 12) (hg : GvOk (S (ki + 3)) n) (dn : Int32) (h10 : i < 1024) (hb : gB G ≤ b) (hd : 2 ≤ d) :
    VM G mX6_reachOn d 0 0 [.ref (b + 40), .ref (b + ki), .int dn, .int (nI i)] (xE none (wH G b tbC (upR S 42 (rchF (cFf S ki n dn (nI i)) (S (ki + 3)) (nI i) 12 (cFf S ki n dn (nI i) 0) (S 42))) h0)) (wH G b tbC S h0) := by
  obtain ⟨k0, k1, k2, k3⟩ := id hi
  refine VM_start (ls := [some (.ref (b + 40)), some (.ref (b + ki)), some (.int dn), some (.int (nI i)), none, none]) rfl ?_
  have e0 : wH G b tbC S h0 = wH G b tbC (upR S 42 (S 42)) h0 := by
    congr 1
    funext k' j
    by_cases h : k' = 42
    · subst h; rw [upR_same]
    · rw [upR_row h]
  -- %m X6_reachOn
  refine V_aload_n (pc := 0) (i := 1) dX6_reachOn_0 rfl rfl ?_
  refine V_iload_n (pc := 1) (i := 3) dX6_reachOn_1 rfl rfl ?_
  refine V_iload_n (pc := 2) (i := 2) dX6_reachOn_2 rfl rfl ?_
  refine V_iconst (pc := 3) (v := 0) dX6_reachOn_3 (by decide) ?_
  refine V_V3i (pc := 4) dX6_reachOn_4 cX6_18 (by first | assumption | rfl) (X1_firstBringing (i0 := 0) (d := 1) hi hn h12 (Nat.zero_le _) (by omega) _ _) (Nat.le_of_ble_eq_true rfl) (by omega) (Nat.le_of_ble_eq_true rfl) ?_
  refine V_istore (pc := 7) dX6_reachOn_7 (by decide) rfl ?_
  refine V_iconst (pc := 9) (v := 0) dX6_reachOn_9 (by decide) ?_
  refine V_istore (pc := 10) dX6_reachOn_10 (by decide) rfl ?_
  have loop : ∀ (m q : Nat) (o : Int32) (r : Nat → Int32), m + q = 12 → (o = -1 ∨ ∃ j, j < n ∧ o = nI j) → V G mX6_reachOn d 0 0 (xE none (wH G b tbC (upR S 42 (rchF (cFf S ki n dn (nI i)) (S (ki + 3)) (nI i) m o r)) h0)) 12 [some (.ref (b + 40)), some (.ref (b + ki)), some (.int dn), some (.int (nI i)), some (.int o), some (.int (nI q))] [] (wH G b tbC (upR S 42 r) h0) := by
    intro m
    induction m with
    | zero =>
      intro q o r hm ho
      refine V_iload (pc := 12) dX6_reachOn_12 rfl ?_
      refine V_bipush (pc := 14) (v := 12) dX6_reachOn_14 (by decide) ?_
      refine V_icmp_ge (pc := 16) 60 dX6_reachOn_16 rfl (fun c16 => ?_) (fun c16 => ?_)
      · exact VE_vret (pc := 60) dX6_reachOn_60 rfl rfl
      · exact absurd (by rw [show q = 12 by omega]; decide) c16
    | succ m ih =>
      intro q o r hm ho
      rw [rchF]
      have hn2 : ∀ r : Nat → Int32, upR S 42 r ki 4 = nI n := fun r => by rw [upR_row (by omega)]; exact hn
      have hF : ∀ (r : Nat → Int32) (i0 : Nat), fst1 (brg (upR S 42 r (ki + 1)) (upR S 42 r (ki + 2)) (upR S 42 r (ki + 3)) (upR S 42 r ki 3) dn (nI i)) (n - i0) i0 = cFf S ki n dn (nI i) i0 := fun r i0 => by rw [← cFf_upR (k' := 42) (r := r) (by omega)]; rfl
      refine V_iload (pc := 12) dX6_reachOn_12 rfl ?_
      refine V_bipush (pc := 14) (v := 12) dX6_reachOn_14 (by decide) ?_
      refine V_icmp_ge (pc := 16) 60 dX6_reachOn_16 rfl (fun c16 => ?_) (fun c16 => ?_)
      · exact absurd c16 (nI_ge (b := 12) (by omega) (by decide))
      · refine V_iload (pc := 19) dX6_reachOn_19 rfl ?_
        refine V_iconst (pc := 21) (v := -1) dX6_reachOn_21 (by decide) ?_
        refine V_icmp_eq (pc := 22) 60 dX6_reachOn_22 rfl (fun c22 => ?_) (fun c22 => ?_)
        · rw [if_pos c22]
          exact VE_vret (pc := 60) dX6_reachOn_60 rfl rfl
        · obtain ⟨j, hj, ej⟩ := ho.resolve_left c22
          subst ej
          obtain ⟨g, hg1, eg⟩ := hg j hj
          rw [if_neg c22, nI_clamp (by omega), eg, or_shl hg1, nI_clamp (by have := or_lt h10 hg1; omega)]
          refine V_aload_n (pc := 25) (i := 0) dX6_reachOn_25 rfl rfl ?_
          refine VW_getR (pc := 26) dX6_reachOn_26 fX6_15 (by first | assumption | rfl) rfl ?_
          refine V_iload_n (pc := 29) (i := 3) dX6_reachOn_29 rfl rfl ?_
          refine V_iconst (pc := 30) (v := 1) dX6_reachOn_30 (by decide) ?_
          refine V_aload_n (pc := 31) (i := 1) dX6_reachOn_31 rfl rfl ?_
          refine VW_getR (pc := 32) dX6_reachOn_32 fX6_24 (by first | assumption | rfl) rfl ?_
          refine V_iload (pc := 35) dX6_reachOn_35 rfl ?_
          refine VW_ialdN (pc := 37) dX6_reachOn_37 (by first | assumption | rfl) rfl (by omega) (by first | decide | omega) ?_
          rw [upR_row (by omega), eg]
          refine V_ishl (pc := 38) dX6_reachOn_38 ?_
          refine V_ior (pc := 39) dX6_reachOn_39 ?_
          rw [or_shl hg1]
          refine V_iconst (pc := 40) (v := 1) dX6_reachOn_40 (by decide) ?_
          refine VW_iastN (pc := 41) dX6_reachOn_41 (by first | assumption | rfl) (by assumption) rfl (or_lt h10 hg1) (by first | decide | omega) ?_
          rw [up2_upR]
          refine V_aload_n (pc := 42) (i := 1) dX6_reachOn_42 rfl rfl ?_
          refine V_iload_n (pc := 43) (i := 3) dX6_reachOn_43 rfl rfl ?_
          refine V_iload_n (pc := 44) (i := 2) dX6_reachOn_44 rfl rfl ?_
          refine V_iload (pc := 45) dX6_reachOn_45 rfl ?_
          refine V_iconst (pc := 47) (v := 1) dX6_reachOn_47 (by decide) ?_
          refine V_iadd (pc := 48) dX6_reachOn_48 ?_
          rw [nI_1]
          refine V_V3i (pc := 49) dX6_reachOn_49 cX6_18 (by first | assumption | rfl) (X1_firstBringing (i0 := j + 1) (d := 1) hi (hn2 _) h12 (by omega) (by omega) _ _) (Nat.le_of_ble_eq_true rfl) (by omega) (Nat.le_of_ble_eq_true rfl) ?_
          rw [hF]
          refine V_istore (pc := 52) dX6_reachOn_52 (by decide) rfl ?_
          refine V_iinc (pc := 54) dX6_reachOn_54 (by decide) rfl rfl (iincN (n := 1) (by decide)) ?_
          refine V_goto (pc := 57) 12 dX6_reachOn_57 rfl ?_
          refine ih (q + 1) _ _ (by omega) ?_
          rcases cFf_cases (S := S) (ki := ki) (n := n) (dn := dn) (t := nI i) (i0 := j + 1) with h | ⟨j2, -, h2, h3⟩
          · exact Or.inl h
          · exact Or.inr ⟨j2, h2, h3⟩
  rw [e0]
  refine loop 12 0 _ _ rfl ?_
  rcases cFf_cases (S := S) (ki := ki) (n := n) (dn := dn) (t := nI i) (i0 := 0) with h | ⟨j2, -, h2, h3⟩
  · exact Or.inl h
  · exact Or.inr ⟨j2, h2, h3⟩
/-- the fewest steps to t: m sets from i on, z so far, r are reached -/
def fewF (F : Int32 → Nat → Int32) (gv : Nat → Int32) (fr t : Int32) : Nat → Nat → Int32 → (Nat → Int32) → Int32 × (Nat → Int32)
  | 0, _, z, r => (z, r)
  | m + 1, i, z, r => if r i = 0 then fewF F gv fr t m (i + 1) z r else
      fewF F gv fr t m (i + 1) (if hasB (nI i) t then (if z = -1 then bcI (nI i) - bcI fr else mnI z (bcI (nI i) - bcI fr)) else z) (rchF (F (nI i)) gv (nI i) 12 (F (nI i) 0) r)
theorem X6_fewestSteps {ki n a : Nat} (hi : IfsAt tbC ki) (hki : ki + 4 ≤ 40 ∨ 43 ≤ ki) (hn : S ki 4 = nI n) (h12 : n ≤ 12) (hg : GvOk (S (ki + 3)) n) (dn t : Int32) (h10 : a < 1024) (hb : gB G ≤ b) (hd : 3 ≤ d) :
    VM G mX6_fewestSteps d 0 0 [.ref (b + 40), .ref (b + ki), .int dn, .int (nI a), .int t] (xE (some (.int (fewF (cFf S ki n dn) (S (ki + 3)) (nI a) t (1024 - a) a (-1) (upd (fillR (S 42) 0 0 1024) a 1)).1)) (wH G b tbC (upR S 42 (fewF (cFf S ki n dn) (S (ki + 3)) (nI a) t (1024 - a) a (-1) (upd (fillR (S 42) 0 0 1024) a 1)).2) h0)) (wH G b tbC S h0) := by
  obtain ⟨k0, k1, k2, k3⟩ := id hi
  refine VM_start (ls := [some (.ref (b + 40)), some (.ref (b + ki)), some (.int dn), some (.int (nI a)), some (.int t), none, none, none]) rfl ?_
  -- %m X6_fewestSteps
  refine V_aload_n (pc := 0) (i := 0) dX6_fewestSteps_0 rfl rfl ?_
  refine VW_getR (pc := 1) dX6_fewestSteps_1 fX6_15 (by first | assumption | rfl) rfl ?_
  refine V_iconst (pc := 4) (v := 0) dX6_fewestSteps_4 (by decide) ?_
  refine V_S2v (pc := 5) dX6_fewestSteps_5 cX6_39 (J7_fill (d := 0) rfl (by decide) hb _) (Nat.le_of_ble_eq_true rfl) (by omega) (Nat.le_of_ble_eq_true rfl) ?_
  refine V_aload_n (pc := 8) (i := 0) dX6_fewestSteps_8 rfl rfl ?_
  refine VW_getR (pc := 9) dX6_fewestSteps_9 fX6_15 (by first | assumption | rfl) rfl ?_
  refine V_iload_n (pc := 12) (i := 3) dX6_fewestSteps_12 rfl rfl ?_
  refine V_iconst (pc := 13) (v := 1) dX6_fewestSteps_13 (by decide) ?_
  refine VW_iastN (pc := 14) dX6_fewestSteps_14 (by first | assumption | rfl) (by assumption) rfl (by omega) (by first | decide | omega) ?_
  rw [up2_upR]
  generalize upd (fillR (S 42) 0 0 1024) a 1 = r0
  refine V_iconst (pc := 15) (v := -1) dX6_fewestSteps_15 (by decide) ?_
  refine V_istore (pc := 16) dX6_fewestSteps_16 (by decide) rfl ?_
  refine V_iload_n (pc := 18) (i := 3) dX6_fewestSteps_18 rfl rfl ?_
  refine V_istore (pc := 19) dX6_fewestSteps_19 (by decide) rfl ?_
  have loop : ∀ (m i : Nat) (z : Int32) (r : Nat → Int32), m + i = 1024 → V G mX6_fewestSteps d 0 0 (xE (some (.int (fewF (cFf S ki n dn) (S (ki + 3)) (nI a) t m i z r).1)) (wH G b tbC (upR S 42 (fewF (cFf S ki n dn) (S (ki + 3)) (nI a) t m i z r).2) h0)) 21 [some (.ref (b + 40)), some (.ref (b + ki)), some (.int dn), some (.int (nI a)), some (.int t), some (.int z), some (.int (nI i)), none] [] (wH G b tbC (upR S 42 r) h0) := by
    intro m
    induction m with
    | zero =>
      intro i z r hm
      refine V_iload (pc := 21) dX6_fewestSteps_21 rfl ?_
      refine V_sipush (pc := 23) (v := 1024) dX6_fewestSteps_23 (by decide) ?_
      refine V_icmp_ge (pc := 26) 98 dX6_fewestSteps_26 rfl (fun c26 => ?_) (fun c26 => ?_)
      · refine V_iload (pc := 98) dX6_fewestSteps_98 rfl ?_
        exact VE_iret (pc := 100) dX6_fewestSteps_100 rfl rfl rfl
      · exact absurd (by rw [show i = 1024 by omega]; decide) c26
    | succ m ih =>
      intro i z r hm
      rw [fewF]
      have fin : ∀ z : Int32, V G mX6_fewestSteps d 0 0 (xE (some (.int (fewF (cFf S ki n dn) (S (ki + 3)) (nI a) t m (i + 1) z (rchF (cFf S ki n dn (nI i)) (S (ki + 3)) (nI i) 12 (cFf S ki n dn (nI i) 0) r)).1)) (wH G b tbC (upR S 42 (fewF (cFf S ki n dn) (S (ki + 3)) (nI a) t m (i + 1) z (rchF (cFf S ki n dn (nI i)) (S (ki + 3)) (nI i) 12 (cFf S ki n dn (nI i) 0) r)).2) h0)) 84 [some (.ref (b + 40)), some (.ref (b + ki)), some (.int dn), some (.int (nI a)), some (.int t), some (.int z), some (.int (nI i)), none] [] (wH G b tbC (upR S 42 r) h0) := by
        intro z
        refine V_aload_n (pc := 84) (i := 0) dX6_fewestSteps_84 rfl rfl ?_
        refine V_aload_n (pc := 85) (i := 1) dX6_fewestSteps_85 rfl rfl ?_
        refine V_iload_n (pc := 86) (i := 2) dX6_fewestSteps_86 rfl rfl ?_
        refine V_iload (pc := 87) dX6_fewestSteps_87 rfl ?_
        refine V_V3v (pc := 89) dX6_fewestSteps_89 cX6_56 (by first | assumption | rfl) (X6_reachOn (d := 2) hi hki (show upR S 42 r ki 4 = nI n by rw [upR_row (by omega)]; exact hn) h12 (show GvOk (upR S 42 r (ki + 3)) n by rw [upR_row (by omega)]; exact hg) _ (by omega) hb (by omega)) (Nat.le_of_ble_eq_true rfl) (by omega) (Nat.le_of_ble_eq_true rfl) ?_
        have e : upR (upR S 42 r) 42 (rchF (cFf (upR S 42 r) ki n dn (nI i)) (upR S 42 r (ki + 3)) (nI i) 12 (cFf (upR S 42 r) ki n dn (nI i) 0) (upR S 42 r 42)) = upR S 42 (rchF (cFf S ki n dn (nI i)) (S (ki + 3)) (nI i) 12 (cFf S ki n dn (nI i) 0) r) := by
          have e1 : cFf (upR S 42 r) ki n dn (nI i) = cFf S ki n dn (nI i) := funext fun i0 => cFf_upR (by omega)
          rw [e1, upR_same, upR_row (by omega)]
          funext k' j
          by_cases h : k' = 42
          · subst h; rw [upR_same, upR_same]
          · rw [upR_row h, upR_row h, upR_row h]
        rw [e]
        refine V_iinc (pc := 92) dX6_fewestSteps_92 (by decide) rfl rfl (iincN (n := 1) (by decide)) ?_
        refine V_goto (pc := 95) 21 dX6_fewestSteps_95 rfl ?_
        exact ih (i + 1) _ _ (by omega)
      refine V_iload (pc := 21) dX6_fewestSteps_21 rfl ?_
      refine V_sipush (pc := 23) (v := 1024) dX6_fewestSteps_23 (by decide) ?_
      refine V_icmp_ge (pc := 26) 98 dX6_fewestSteps_26 rfl (fun c26 => ?_) (fun c26 => ?_)
      · exact absurd c26 (nI_ge (b := 1024) (by omega) (by decide))
      · refine V_aload_n (pc := 29) (i := 0) dX6_fewestSteps_29 rfl rfl ?_
        refine VW_getR (pc := 30) dX6_fewestSteps_30 fX6_15 (by first | assumption | rfl) rfl ?_
        refine V_iload (pc := 33) dX6_fewestSteps_33 rfl ?_
        refine VW_ialdN (pc := 35) dX6_fewestSteps_35 (by first | assumption | rfl) rfl (by omega) (by first | decide | omega) ?_
        rw [upR_same]
        refine V_if_ne (pc := 36) 42 dX6_fewestSteps_36 rfl (fun c36 => ?_) (fun c36 => ?_)
        · rw [if_neg c36]
          refine V_iload (pc := 42) dX6_fewestSteps_42 rfl ?_
          refine V_iload (pc := 44) dX6_fewestSteps_44 rfl ?_
          refine V_SN2i (pc := 46) dX6_fewestSteps_46 cX6_31 (X11_isIn (d := 0) _ _) (Nat.le_of_ble_eq_true rfl) (by omega) (Nat.le_of_ble_eq_true rfl) ?_
          refine V_if_eq (pc := 49) 84 dX6_fewestSteps_49 rfl (fun c49 => ?_) (fun c49 => ?_)
          · rw [if_neg (by rw [b2i_0.mp c49]; decide)]
            exact fin z
          · rw [if_pos (b2i_n0.mp c49)]
            refine V_iload (pc := 52) dX6_fewestSteps_52 rfl ?_
            refine V_S1i (pc := 54) dX6_fewestSteps_54 cX6_44 (J6_bitCount (d := 0) _) (Nat.le_of_ble_eq_true rfl) (by omega) (Nat.le_of_ble_eq_true rfl) ?_
            refine V_iload_n (pc := 57) (i := 3) dX6_fewestSteps_57 rfl rfl ?_
            refine V_S1i (pc := 58) dX6_fewestSteps_58 cX6_44 (J6_bitCount (d := 0) _) (Nat.le_of_ble_eq_true rfl) (by omega) (Nat.le_of_ble_eq_true rfl) ?_
            refine V_isub (pc := 61) dX6_fewestSteps_61 ?_
            refine V_istore (pc := 62) dX6_fewestSteps_62 (by decide) rfl ?_
            refine V_iload (pc := 64) dX6_fewestSteps_64 rfl ?_
            refine V_iconst (pc := 66) (v := -1) dX6_fewestSteps_66 (by decide) ?_
            refine V_icmp_ne (pc := 67) 75 dX6_fewestSteps_67 rfl (fun c67 => ?_) (fun c67 => ?_)
            · rw [if_neg c67]
              refine V_iload (pc := 75) dX6_fewestSteps_75 rfl ?_
              refine V_iload (pc := 77) dX6_fewestSteps_77 rfl ?_
              refine V_min (pc := 79) dX6_fewestSteps_79 cX6_50 w_minS w_mathI w_minC (by omega) (Nat.le_of_ble_eq_true rfl) ?_
              refine V_istore (pc := 82) dX6_fewestSteps_82 (by decide) rfl ?_
              exact V_forget 7 (fin _)
            · rw [if_pos c67]
              refine V_iload (pc := 70) dX6_fewestSteps_70 rfl ?_
              refine V_goto (pc := 72) 82 dX6_fewestSteps_72 rfl ?_
              refine V_istore (pc := 82) dX6_fewestSteps_82 (by decide) rfl ?_
              exact V_forget 7 (fin _)
        · rw [if_pos c36]
          refine V_goto (pc := 39) 92 dX6_fewestSteps_39 rfl ?_
          refine V_iinc (pc := 92) dX6_fewestSteps_92 (by decide) rfl rfl (iincN (n := 1) (by decide)) ?_
          refine V_goto (pc := 95) 21 dX6_fewestSteps_95 rfl ?_
          exact ih (i + 1) _ _ (by omega)
  exact loop (1024 - a) a _ _ (by omega)
end Sts2
