/-! ===== bits; the IFS of the class: firstBringing, allFrom ===== -/
/-- whether x has the bit k -/
def hasB (x k : Int32) : Bool := !((x >>> (k &&& 31)) &&& 1 == 0)
def b2i (c : Bool) : Int32 := if c then 1 else 0
theorem b2i_01 (c : Bool) : b2i c = 0 ∨ b2i c = 1 := by cases c <;> simp [b2i]
theorem b2i_0 {c : Bool} : b2i c = 0 ↔ c = false := by cases c <;> decide
theorem b2i_n0 {c : Bool} : ¬ b2i c = 0 ↔ c = true := by cases c <;> decide
section Ifs
variable {G : xG} {d bc bs : Nat} {b : Nat} {tb : xTb} {S : Nat → Nat → Int32} {h0 h : xH}
/-- RiverIfs.isIn(member, bits) -/
theorem X11_isIn (k x : Int32) : VM G mX11_isIn d 0 0 [.int k, .int x] (xE (some (.int (b2i (hasB x k)))) h) h := by
  refine VM_start (ls := [some (.int k), some (.int x)]) rfl ?_
  -- %m X11_isIn
  refine V_iload_n (pc := 0) (i := 1) dX11_isIn_0 rfl rfl ?_
  refine V_iload_n (pc := 1) (i := 0) dX11_isIn_1 rfl rfl ?_
  refine V_ishr (pc := 2) dX11_isIn_2 ?_
  refine V_iconst (pc := 3) (v := 1) dX11_isIn_3 (by decide) ?_
  refine V_iand (pc := 4) dX11_isIn_4 ?_
  refine V_if_eq (pc := 5) 12 dX11_isIn_5 rfl (fun c => ?_) (fun c => ?_)
  · refine V_iconst (pc := 12) (v := 0) dX11_isIn_12 (by decide) ?_
    exact VE_zret (pc := 13) dX11_isIn_13 rfl (Or.inl rfl) (by simp [hasB, b2i, c]) rfl
  · refine V_iconst (pc := 8) (v := 1) dX11_isIn_8 (by decide) ?_
    refine V_goto (pc := 9) 13 dX11_isIn_9 rfl ?_
    exact VE_zret (pc := 13) dX11_isIn_13 rfl (Or.inr rfl) (by simp [hasB, b2i, c]) rfl
/-- whether the IF i brings something -/
def brg (nd br gv : Nat → Int32) (un dn t : Int32) (i : Nat) : Bool := (decide (t &&& nd i = nd i) != hasB un (nI i)) && decide (t &&& br i = 0) && !hasB t (gv i) && !hasB dn (nI i)
/-- the first from i on, of m -/
def fst1 (P : Nat → Bool) : Nat → Nat → Int32
  | 0, _ => -1
  | m + 1, i => if P i then nI i else fst1 P m (i + 1)
/-- the cells of Ifs at ki -/
def IfsAt (tb : xTb) (ki : Nat) : Prop := tb[ki]? = some (.inr (1, [ki + 1 + 2, ki + 2 + 2, ki + 3 + 2, 0, 0])) ∧ tb[ki + 1]? = some (.inl (0, 12)) ∧ tb[ki + 2]? = some (.inl (0, 12)) ∧ tb[ki + 3]? = some (.inl (0, 12))
theorem X1_firstBringing {ki n i0 : Nat} (hi : IfsAt tb ki) (hn : S ki 4 = nI n) (h12 : n ≤ 12) (hi0 : i0 ≤ n) (hd : 1 ≤ d) (t dn : Int32) :
    VM G mX1_firstBringing d 0 0 [.ref (b + ki), .int t, .int dn, .int (nI i0)] (xE (some (.int (fst1 (brg (S (ki + 1)) (S (ki + 2)) (S (ki + 3)) (S ki 3) dn t) (n - i0) i0))) (wH G b tb S h0)) (wH G b tb S h0) := by
  obtain ⟨k0, k1, k2, k3⟩ := hi
  refine VM_start (ls := [some (.ref (b + ki)), some (.int t), some (.int dn), some (.int (nI i0)), none, none]) rfl ?_
  -- %m X1_firstBringing
  refine V_iload_n (pc := 0) (i := 3) dX1_firstBringing_0 rfl rfl ?_
  refine V_istore (pc := 1) dX1_firstBringing_1 (by decide) rfl ?_
  have loop : ∀ (m i : Nat), m = n - i → i ≤ n → V G mX1_firstBringing d 0 0 (xE (some (.int (fst1 (brg (S (ki + 1)) (S (ki + 2)) (S (ki + 3)) (S ki 3) dn t) m i))) (wH G b tb S h0)) 3 [some (.ref (b + ki)), some (.int t), some (.int dn), some (.int (nI i0)), some (.int (nI i)), none] [] (wH G b tb S h0) := by
    intro m
    induction m with
    | zero =>
      intro i hm hle
      refine V_iload (pc := 3) dX1_firstBringing_3 rfl ?_
      refine V_aload_n (pc := 5) (i := 0) dX1_firstBringing_5 rfl rfl ?_
      refine VW_getI (pc := 6) dX1_firstBringing_6 fX1_25 (by first | assumption | rfl) rfl ?_
      refine V_icmp_ge (pc := 9) 96 dX1_firstBringing_9 rfl (fun c => ?_) (fun c => ?_)
      · refine V_iconst (pc := 96) (v := -1) dX1_firstBringing_96 (by decide) ?_
        exact VE_iret (pc := 97) dX1_firstBringing_97 rfl rfl rfl
      · exact absurd (by rw [hn]; exact nI_le (by omega) (by omega)) c
    | succ m ih =>
      intro i hm hle
      have hlt : i < n := by omega
      have hin : vp_in (nI i) 12 := vp_in_nI (by omega) (by decide)
      have hcl : (nI i).toNatClampNeg = i := nI_clamp (by omega)
      have step : brg (S (ki + 1)) (S (ki + 2)) (S (ki + 3)) (S ki 3) dn t i = false → V G mX1_firstBringing d 0 0 (xE (some (.int (fst1 (brg (S (ki + 1)) (S (ki + 2)) (S (ki + 3)) (S ki 3) dn t) (m + 1) i))) (wH G b tb S h0)) 90 [some (.ref (b + ki)), some (.int t), some (.int dn), some (.int (nI i0)), some (.int (nI i)), none] [] (wH G b tb S h0) := by
        intro hf
        refine V_iinc (pc := 90) dX1_firstBringing_90 (by decide) rfl rfl (iincN (n := 1) (by decide)) ?_
        refine V_goto (pc := 93) 3 dX1_firstBringing_93 rfl ?_
        rw [fst1, hf]
        exact ih (i + 1) (by omega) (by omega)
      refine V_iload (pc := 3) dX1_firstBringing_3 rfl ?_
      refine V_aload_n (pc := 5) (i := 0) dX1_firstBringing_5 rfl rfl ?_
      refine VW_getI (pc := 6) dX1_firstBringing_6 fX1_25 (by first | assumption | rfl) rfl ?_
      refine V_icmp_ge (pc := 9) 96 dX1_firstBringing_9 rfl (fun c => ?_) (fun c => ?_)
      · exact absurd c (by rw [hn]; exact nI_ge hlt (by omega))
      · refine V_iload_n (pc := 12) (i := 1) dX1_firstBringing_12 rfl rfl ?_
        refine V_aload_n (pc := 13) (i := 0) dX1_firstBringing_13 rfl rfl ?_
        refine VW_getR (pc := 14) dX1_firstBringing_14 fX1_9 (by first | assumption | rfl) rfl ?_
        refine V_iload (pc := 17) dX1_firstBringing_17 rfl ?_
        refine VW_ialdN (pc := 19) dX1_firstBringing_19 (by first | assumption | rfl) rfl (by omega) (by first | decide | omega) ?_
        refine V_iand (pc := 20) dX1_firstBringing_20 ?_
        refine V_aload_n (pc := 21) (i := 0) dX1_firstBringing_21 rfl rfl ?_
        refine VW_getR (pc := 22) dX1_firstBringing_22 fX1_9 (by first | assumption | rfl) rfl ?_
        refine V_iload (pc := 25) dX1_firstBringing_25 rfl ?_
        refine VW_ialdN (pc := 27) dX1_firstBringing_27 (by first | assumption | rfl) rfl (by omega) (by first | decide | omega) ?_
        have body : ∀ a : Bool, a = decide (t &&& S (ki + 1) i = S (ki + 1) i) → V G mX1_firstBringing d 0 0 (xE (some (.int (fst1 (brg (S (ki + 1)) (S (ki + 2)) (S (ki + 3)) (S ki 3) dn t) (m + 1) i))) (wH G b tb S h0)) 36 [some (.ref (b + ki)), some (.int t), some (.int dn), some (.int (nI i0)), some (.int (nI i)), none] [.int (b2i a)] (wH G b tb S h0) := by
          intro a ha
          refine V_istore (pc := 36) dX1_firstBringing_36 (by decide) rfl ?_
          refine V_iload (pc := 38) dX1_firstBringing_38 rfl ?_
          refine V_iload (pc := 40) dX1_firstBringing_40 rfl ?_
          refine V_aload_n (pc := 42) (i := 0) dX1_firstBringing_42 rfl rfl ?_
          refine VW_getI (pc := 43) dX1_firstBringing_43 fX1_21 (by first | assumption | rfl) rfl ?_
          refine V_SN2i (pc := 46) dX1_firstBringing_46 cX1_28 (X11_isIn (d := 0) _ _) (Nat.le_of_ble_eq_true rfl) (by omega) (Nat.le_of_ble_eq_true rfl) ?_
          refine V_icmp_eq (pc := 49) 90 dX1_firstBringing_49 rfl (fun c1 => ?_) (fun c1 => ?_)
          · refine V_forget 5 (step ?_)
            have : a = hasB (S ki 3) (nI i) := by cases a <;> cases hz : hasB (S ki 3) (nI i) <;> simp_all [b2i]
            simp [brg, ← ha, this]
          · have g1 : (a != hasB (S ki 3) (nI i)) = true := by cases a <;> cases hz : hasB (S ki 3) (nI i) <;> simp_all [b2i]
            refine V_iload_n (pc := 52) (i := 1) dX1_firstBringing_52 rfl rfl ?_
            refine V_aload_n (pc := 53) (i := 0) dX1_firstBringing_53 rfl rfl ?_
            refine VW_getR (pc := 54) dX1_firstBringing_54 fX1_15 (by first | assumption | rfl) rfl ?_
            refine V_iload (pc := 57) dX1_firstBringing_57 rfl ?_
            refine VW_ialdN (pc := 59) dX1_firstBringing_59 (by first | assumption | rfl) rfl (by omega) (by first | decide | omega) ?_
            refine V_iand (pc := 60) dX1_firstBringing_60 ?_
            refine V_if_ne (pc := 61) 90 dX1_firstBringing_61 rfl (fun c2 => ?_) (fun c2 => ?_)
            · refine V_forget 5 (step ?_)
              simp [brg, c2]
            · skip
              refine V_aload_n (pc := 64) (i := 0) dX1_firstBringing_64 rfl rfl ?_
              refine VW_getR (pc := 65) dX1_firstBringing_65 fX1_18 (by first | assumption | rfl) rfl ?_
              refine V_iload (pc := 68) dX1_firstBringing_68 rfl ?_
              refine VW_ialdN (pc := 70) dX1_firstBringing_70 (by first | assumption | rfl) rfl (by omega) (by first | decide | omega) ?_
              refine V_iload_n (pc := 71) (i := 1) dX1_firstBringing_71 rfl rfl ?_
              refine V_SN2i (pc := 72) dX1_firstBringing_72 cX1_28 (X11_isIn (d := 0) _ _) (Nat.le_of_ble_eq_true rfl) (by omega) (Nat.le_of_ble_eq_true rfl) ?_
              refine V_if_ne (pc := 75) 90 dX1_firstBringing_75 rfl (fun c3 => ?_) (fun c3 => ?_)
              · refine V_forget 5 (step ?_)
                simp [brg, b2i_n0.mp c3]
              · refine V_iload (pc := 78) dX1_firstBringing_78 rfl ?_
                refine V_iload_n (pc := 80) (i := 2) dX1_firstBringing_80 rfl rfl ?_
                refine V_SN2i (pc := 81) dX1_firstBringing_81 cX1_28 (X11_isIn (d := 0) _ _) (Nat.le_of_ble_eq_true rfl) (by omega) (Nat.le_of_ble_eq_true rfl) ?_
                refine V_if_ne (pc := 84) 90 dX1_firstBringing_84 rfl (fun c4 => ?_) (fun c4 => ?_)
                · refine V_forget 5 (step ?_)
                  simp [brg, b2i_n0.mp c4]
                · refine V_iload (pc := 87) dX1_firstBringing_87 rfl ?_
                  exact VE_iret (pc := 89) dX1_firstBringing_89 rfl (by rw [fst1, if_pos]; simp [brg, ← ha, g1, c2, b2i_0.mp c3, b2i_0.mp c4]) rfl
        refine V_icmp_ne (pc := 28) 35 dX1_firstBringing_28 rfl (fun c0 => ?_) (fun c0 => ?_)
        · refine V_iconst (pc := 35) (v := 0) dX1_firstBringing_35 (by decide) ?_
          exact body false (by simp [c0])
        · refine V_iconst (pc := 31) (v := 1) dX1_firstBringing_31 (by decide) ?_
          refine V_goto (pc := 32) 36 dX1_firstBringing_32 rfl ?_
          exact body true (by simp [c0])
  exact loop (n - i0) i0 rfl hi0
end Ifs
