/-! ===== what holds at the law's entry ===== -/
section K1
variable {s : State} {args : Array Value}
/-- what the Statement says of a String constant -/
def strW (r : String × Nat × String × List Int32) : List Cond :=
  .exactly (.string r.1 r.2.1) "java/lang/String" :: .eq (.field (.string r.1 r.2.1) "java/lang/String" "coder" "B") (.int 0) :: .arrayOf (.field (.string r.1 r.2.1) "java/lang/String" "value" "[B") .byte ::
    .eq (.length (.field (.string r.1 r.2.1) "java/lang/String" "value" "[B")) (.int (Int32.ofNat r.2.2.2.length)) ::
    (List.range r.2.2.2.length).map fun j => .eq (.elem (.field (.string r.1 r.2.1) "java/lang/String" "value" "[B") (.int (Int32.ofNat j))) (.int (r.2.2.2.getD j 0))
def NL : List Cond := flatC (Jvm.Cond.and given_1 narrow_1)
def sOff : List Nat := [39, 69, 82, 91, 101, 107, 117, 127, 138, 149, 157, 166, 176, 186, 197, 205, 212, 218, 225, 242, 259, 273, 298, 316, 344, 360, 384, 391, 402, 414, 423, 433, 444, 455, 467, 476, 487, 499, 507, 515, 522, 532]
def sPl : List Nat := [630, 694, 781, 841, 850, 859, 860, 865, 899, 900, 901, 902, 903, 904, 905, 910, 915, 916, 976, 993, 1005, 1007, 1019, 1026, 1065, 1292, 1332, 1333, 1334, 1335, 1336, 1337, 1338, 1339, 1340, 1563, 1564, 1593, 1614, 1615, 1624, 1632]
def chkS (i : Nat) : Bool := match xStr[i]? with
  | some r => decide ((NL.drop (sOff.getD i 0)).take (strW r).length = strW r) && decide (tables_1[sPl.getD i 0]? = some (Cond.stringRef r.1 r.2.1 r.2.2.1))
  | none => true
theorem chkS_ok : (List.range 42).all chkS = true := by decide +kernel
theorem xStr_42 {i : Nat} {r : String × Nat × String × List Int32} (hi : xStr[i]? = some r) : i < 42 := (List.getElem?_eq_some_iff.mp hi).1
theorem str_in {i : Nat} {r : String × Nat × String × List Int32} (hi : xStr[i]? = some r) : (∀ w ∈ strW r, w ∈ NL) ∧ Cond.stringRef r.1 r.2.1 r.2.2.1 ∈ tables_1 := by
  have h := List.all_eq_true.mp chkS_ok i (List.mem_range.mpr (xStr_42 hi))
  unfold chkS at h
  rw [hi] at h
  have h2 := (Bool.and_eq_true _ _).mp h
  have e1 := of_decide_eq_true h2.1
  have e2 := of_decide_eq_true h2.2
  refine ⟨fun w hw => ?_, List.mem_of_getElem? e2⟩
  rw [← e1] at hw
  exact List.mem_of_mem_drop (List.mem_of_mem_take hw)
theorem str1 {r : String × Nat × String × List Int32} {A : Nat → Prop} (hN : r.2.2.2.length < 2 ^ 31) (h : ∀ w ∈ strW r, w.before args s = true) (hA : ∀ a : Nat, a < s.heap.size → ¬ A a) : ∃ q : Nat × Nat, (Term.string r.1 r.2.1).eval args s none [] s = some (.ref q.1) ∧ va_O "java/lang/String" q.1 A s s.heap ∧ va_OF "java/lang/String" "coder" "B" (.int 0) q.1 A s s.heap ∧ va_OF "java/lang/String" "value" "[B" (.ref q.2) q.1 A s s.heap ∧ va_T .byte q.2 r.2.2.2.length (fun j => .int (r.2.2.2.getD j 0)) A s s.heap := by
  unfold strW at h
  have h0 := h _ List.mem_cons_self
  have h1 := h _ (List.mem_cons_of_mem _ List.mem_cons_self)
  have h2 := h _ (List.mem_cons_of_mem _ (List.mem_cons_of_mem _ List.mem_cons_self))
  have h3 := h _ (List.mem_cons_of_mem _ (List.mem_cons_of_mem _ (List.mem_cons_of_mem _ List.mem_cons_self)))
  have h4 : ∀ j, j < r.2.2.2.length → (Cond.eq (.elem (.field (.string r.1 r.2.1) "java/lang/String" "value" "[B") (.int (Int32.ofNat j))) (.int (r.2.2.2.getD j 0))).before args s = true := fun j hj => h _ (List.mem_cons_of_mem _ (List.mem_cons_of_mem _ (List.mem_cons_of_mem _ (List.mem_cons_of_mem _ (List.mem_map.mpr ⟨j, List.mem_range.mpr hj, rfl⟩)))))
  obtain ⟨a, c, cA, kA, q1, q2, q3, q4, q5, q6, -⟩ := Cond.exactly_spec (args := args) (first := s) (o := none) (s := s) (idx := []) (t := .string r.1 r.2.1) (cls := "java/lang/String") h0
  obtain ⟨t, ht, hT⟩ := va_Tof (f := fun j => .int (r.2.2.2.getD j 0)) (A := A) hN h2 (va_eqt h3) (fun j hj => va_eqt (h4 j hj)) hA
  exact ⟨(a, t), q1, ⟨cA, q3, q5, by rw [q6]; exact q2, hA a (Array.getElem?_eq_some_iff.mp q3).1⟩, vk_OFof q1 (va_eqt h1) hA, vk_OFof q1 ht hA, hT⟩
theorem str_all {A : Nat → Prop} (ht : ∀ w ∈ tables_1, w.before args s = true) (hn : ∀ w ∈ NL, w.before args s = true) (hA : ∀ a : Nat, a < s.heap.size → ¬ A a) : ∃ ad : Nat → Nat × Nat, ∀ (i : Nat) (r : String × Nat × String × List Int32), xStr[i]? = some r → vk_R r.1 r.2.1 r.2.2.1 (ad i).1 s ∧ va_O "java/lang/String" (ad i).1 A s s.heap ∧ va_OF "java/lang/String" "coder" "B" (.int 0) (ad i).1 A s s.heap ∧ va_OF "java/lang/String" "value" "[B" (.ref (ad i).2) (ad i).1 A s s.heap ∧ va_T .byte (ad i).2 r.2.2.2.length (fun j => .int (r.2.2.2.getD j 0)) A s s.heap := by
  have h0 : ∀ i : Nat, ∃ q : Nat × Nat, ∀ r : String × Nat × String × List Int32, xStr[i]? = some r → vk_R r.1 r.2.1 r.2.2.1 q.1 s ∧ va_O "java/lang/String" q.1 A s s.heap ∧ va_OF "java/lang/String" "coder" "B" (.int 0) q.1 A s s.heap ∧ va_OF "java/lang/String" "value" "[B" (.ref q.2) q.1 A s s.heap ∧ va_T .byte q.2 r.2.2.2.length (fun j => .int (r.2.2.2.getD j 0)) A s s.heap := by
    intro i
    cases e : xStr[i]? with
    | none => exact ⟨(0, 0), fun r h => by cases h⟩
    | some r =>
      obtain ⟨k1, k2⟩ := str_in e
      obtain ⟨q, q1, q2⟩ := str1 (args := args) (A := A) (by have := xStr_len e; omega) (fun w hw => hn w (k1 w hw)) hA
      refine ⟨q, fun r' h' => ?_⟩
      cases h'
      exact ⟨vk_R.of (ht _ k2) q1, q2⟩
  exact Classical.axiomOfChoice h0
theorem kn_of {own : String} {idx ci N : Nat} {F : Nat → Value} (nw : NW own idx ci N F) (hg : ∀ w ∈ lw_good, w.before args s = true) : ∃ p : ClassId × (Nat → Nat), ∀ q : vw_C, xcl[ci]? = some q → u_Kn s q.1 q.2.1 q.2.2 p.1 p.2 := by
  obtain ⟨C, T, ty, f1, f2, f3, f4, f5, f6, f7⟩ := nw
  obtain ⟨c, iS, h⟩ := u_known (n := N) hg f2 (hg _ f6)
  refine ⟨(c, iS), fun q hq => ?_⟩
  cases (f1.symm.trans hq)
  exact h
theorem kn_all (hg : ∀ w ∈ lw_good, w.before args s = true) : ∀ i : Nat, ∃ p : ClassId × (Nat → Nat), ∀ q : vw_C, xcl[i]? = some q → u_Kn s q.1 q.2.1 q.2.2 p.1 p.2 := by
  intro i
  match i with
  | 0 => exact kn_of nX2_18 hg
  | 1 => exact kn_of nX7_15 hg
  | 2 => exact kn_of nX11_41 hg
  | 3 => exact kn_of nX11_7 hg
  | 4 => exact kn_of nX7_22 hg
  | 5 => exact kn_of nX2_25 hg
  | 6 => exact kn_of nX11_48 hg
  | 7 => exact kn_of nX3_18 hg
  | 8 => exact kn_of nX2_9 hg
  | 9 => exact kn_of nX3_9 hg
  | 10 => exact kn_of nX11_72 hg
  | 11 => exact kn_of nL_8 hg
  | 12 => exact kn_of nL_125 hg
  | i + 13 =>
    obtain ⟨p, -⟩ := kn_of nL_8 hg
    exact ⟨p, fun q hq => by simp [xcl] at hq⟩
theorem arr1 {ty : FieldType} (h : (Cond.arrayClass ty).before args s = true) : ∃ cA : ClassId, ArrOfT s cA ty ∧ s.vm.findClass ("[" ++ ty.toString) = some cA := by
  obtain ⟨c, k, comp, h1, h2, h3⟩ := Cond.arrayClass_spec h
  exact ⟨c, fun n z => ⟨fun k h => (by cases h), k, h2, comp, h3⟩, h1⟩
theorem arrS (h : (Cond.arrayOver (.object "java/lang/String")).before args s = true) : ∃ cA : ClassId, ArrOfT s cA (.object "java/lang/String") ∧ va_RA s cA (.object "java/lang/String") := by
  obtain ⟨comp, c, k, h1, h2, h3, h4, h5⟩ := Cond.arrayOver_spec h
  exact ⟨c, fun n z => ⟨fun k h => (by cases h), k, h3, comp, h4⟩, k, comp, h3, h4, h1, h5⟩
theorem nestM_in : ∀ q ∈ xNestM, Cond.methodLinkNest q.1 q.2.1 q.2.2.1 q.2.2.2 ∈ tables_1 := by decide +kernel
theorem nestF_in : ∀ q ∈ xNestF, Cond.fieldLinkNest q.1 q.2.1 q.2.2.1 q.2.2.2.1 q.2.2.2.2.1 q.2.2.2.2.2 ∈ tables_1 := by decide +kernel
theorem cast_in : ∀ w ∈ xCast, w ∈ tables_1 := by decide +kernel
theorem t_in {w : Cond} (i : Nat) (h : tables_1[i]? = some w) (ht : ∀ w ∈ tables_1, w.before args s = true) : w.before args s = true := ht w (List.mem_of_getElem? h)
theorem n_in {w : Cond} (i : Nat) (h : NL[i]? = some w) (hn : ∀ w ∈ NL, w.before args s = true) : w.before args s = true := hn w (List.mem_of_getElem? h)
theorem tr_0 {l : Launch} (h : l.flags = flags0) : l.stackTraces = false := by
  unfold Launch.stackTraces
  rw [h]
  decide +kernel
theorem xW_start {l : Launch} (hfl : l.flags = flags0) {q L : Nat} {xs : Nat → Int32} (ht : ∀ w ∈ tables_1, w.before args s = true) (hg : ∀ w ∈ lw_good, w.before args s = true) (hn : ∀ w ∈ NL, w.before args s = true) (hX : va_X q L xs s s.heap) (hq : q < s.heap.size) (hL : L ≤ 3072) : ∃ G : xG, gL G = l ∧ gB G = s.heap.size ∧ xW G s ∧ gV G 100 = q ∧ gV G 101 = L ∧ ∀ j, nI (gV G (1000 + j)) = xs j := by
  have hA : ∀ a : Nat, a < s.heap.size → ¬ (fun z : Nat => s.heap.size ≤ z) a := fun a h => Nat.not_le.mpr h
  obtain ⟨f, hf⟩ := Classical.axiomOfChoice (kn_all hg)
  obtain ⟨ad, had⟩ := str_all (A := fun z : Nat => s.heap.size ≤ z) ht hn hA
  obtain ⟨cI, aI, bI⟩ := arr1 (hg _ w_arI)
  obtain ⟨cB, aB, bB⟩ := arr1 (hg _ w_arB)
  obtain ⟨cZ, aZ, bZ⟩ := arr1 (hg _ w_arZ)
  obtain ⟨cJ, aJ, bJ⟩ := arr1 (hg _ w_arJ)
  have hao : (Cond.arrayOver (.object "java/lang/String")).before args s = true := t_in 1331 (by decide +kernel) ht
  obtain ⟨cS, aS, bS⟩ := arrS hao
  obtain ⟨scr, x1, x2, x3, x4, x5⟩ := hX
  refine ⟨(l, s.heap.size, (fun i => (f i).1, fun i => (f i).2), (fun k => match k with | 0 => cI | 1 => cB | 2 => cZ | 3 => cJ | _ => cS), (fun i => (ad i).1), fun j => if j < 42 then (ad j).2 else if j = 100 then q else if j = 101 then L else (xs (j - 1000)).toBitVec.toNat), rfl, rfl, ?_, rfl, rfl, fun j => ?_⟩
  · refine ⟨⟨fun c q hq => hf c q hq, fun k q hq => ?_⟩, fun q hq => va_Nw.of rfl (ht _ (nestM_in q hq)), fun q hq => va_Nw.of rfl (ht _ (nestF_in q hq)), fun i r hi => ?_, va_Zof (t_in 708 (by decide +kernel) ht) (t_in 20 (by decide +kernel) ht) (va_eqi (n_in 6 (by decide +kernel) hn)) hA, vx_Zqof (t_in 617 (by decide +kernel) ht) (t_in 14 (by decide +kernel) ht) (n_in 4 (by decide +kernel) hn) hA, vx_Zqof (t_in 619 (by decide +kernel) ht) (t_in 14 (by decide +kernel) ht) (n_in 5 (by decide +kernel) hn) hA, ⟨fun w hw => va_Nw.of (xCast_ok w hw).2 (ht _ (cast_in w hw)), va_Nc.of (n_in 38 (by decide +kernel) hn), va_AO.of hao, vx_Zqof (t_in 747 (by decide +kernel) ht) (t_in 23 (by decide +kernel) ht) (n_in 7 (by decide +kernel) hn) hA⟩, tr_0 hfl, Nat.le_refl _, ?_⟩
    · match k, hq with
      | 0, hq => cases hq; exact ⟨aI, bI⟩
      | 1, hq => cases hq; exact ⟨aB, bB⟩
      | 2, hq => cases hq; exact ⟨aZ, bZ⟩
      | 3, hq => cases hq; exact ⟨aJ, bJ⟩
      | 4, hq => cases hq; exact ⟨aS, bS⟩
      | k + 5, hq => simp [xtys] at hq
    · have h42 := xStr_42 hi
      have h := had i r hi
      show vk_R _ _ _ (ad i).1 s ∧ va_O _ (ad i).1 _ _ _ ∧ va_OF _ _ _ _ (ad i).1 _ _ _ ∧ va_OF _ _ _ (.ref (if i < 42 then (ad i).2 else _)) (ad i).1 _ _ _ ∧ va_T _ (if i < 42 then (ad i).2 else _) _ _ _ _ _
      rw [if_pos h42]
      exact h
    · refine ⟨scr, x1, x2, x3, Nat.le_of_eq x4.symm, by show scr.slots.size.toInt32 = Int32.ofNat L; rw [x4], fun j hj => ?_, Nat.not_le.mpr hq⟩
      rw [x5 j hj]
      show some (Value.int (xs j)) = some (Value.int (nI (if 1000 + j < 42 then _ else if 1000 + j = 100 then _ else if 1000 + j = 101 then _ else (xs (1000 + j - 1000)).toBitVec.toNat)))
      rw [if_neg (by omega), if_neg (by omega), if_neg (by omega), nI_bv, Nat.add_sub_cancel_left]
  · show nI (if 1000 + j < 42 then _ else if 1000 + j = 100 then _ else if 1000 + j = 101 then _ else (xs (1000 + j - 1000)).toBitVec.toNat) = xs j
    rw [if_neg (by omega), if_neg (by omega), if_neg (by omega), nI_bv, Nat.add_sub_cancel_left]
end K1
