/-! ===== V: catching, copies, String constants, calls with known ends ===== -/
section VR6
variable {G : xG} {M M' : xM} {d d' bc bs bc' bs' mc ms : Nat} {Q Q' : xR → xH → Prop} {pc idx n : Nat} {ls : List (Option Value)} {st As rest : List Value} {h h' : xH}
theorem VX_catch {E : String} (pre : List ExceptionTableEntry) (x : ExceptionTableEntry) (suf : List ExceptionTableEntry) (hs : tableOf M.2.2.2.2 = pre ++ x :: suf)
    (hpass : ∀ z ∈ pre, z.catchType ≠ 0 ∧ Cond.classLink M.1.cls z.catchType "java/util/NoSuchElementException" ∈ lw_good ∧ E = "java/lang/IllegalArgumentException") (hx : covers x pc = true) (h0 : x.catchType ≠ 0)
    (hlink : Cond.classLink M.1.cls x.catchType E ∈ lw_good) (hE : Cond.castable E E ∈ xCast) (k : ∀ q : Nat, V G M d bc bs Q x.handlerPc ls [.ref q] h) : VX G M d bc bs Q pc ls E h := fun p e R s m args below meth c H locs cells slots la st q ce C hP hS hl h1 h2 hce hcv hcl =>
  vx_catch C.own pre x suf (C.tab.trans hs) (fun z hz => Or.inr ⟨(hpass z hz).1, _, C.ts _ (hpass z hz).2.1, by rw [(hpass z hz).2.2]; exact C.w.nc⟩) hx h0 (C.ts _ hlink) (va_Nw.use (xCast_ok _ hE).2 (C.w.ca _ hE)) hce hcv hcl (k q p e R s m args below meth c H locs cells slots la C hP hS hl h1 h2)
/-- a static call of a method with handlers -/
def CSH (own : String) (idx : Nat) (M' : xM) (n : Nat) : Prop := (plainName M'.1.cls = true ∧ M'.2.2.1 ≤ 45) ∧ (Cond.codeWith M'.1 M'.2.1 M'.2.2.1 M'.2.2.2.1 M'.2.2.2.2 ∈ lw_good ∧ Cond.initialized M'.1.cls ∈ lw_good) ∧ (M'.1.cls ≠ "java/lang/invoke/MethodHandle" ∧ M'.1.cls ≠ "java/lang/invoke/VarHandle" ∧ (parseMethodDescriptor M'.1.desc).map (fun d => d.parameters.length) = some n) ∧ Cond.methodLink own idx M'.1 ∈ lw_good ∧ Cond.static M'.1 ∈ lw_good
theorem V_callSH (dg : decode M.2.1 pc = .ok (.invokestatic idx, 3)) (cs : CSH M.1.cls idx M' n) (hV : V G M' d' mc ms Q' 0 (xEnt As M'.2.2.1) [] h) (hn : As.length = n) (hlen : (lg_sl As).length ≤ M'.2.2.1) (hst : st = As.reverse ++ rest) (hd : d' + 1 ≤ d) (hbc : mc + bc' ≤ bc) (hbs : ms + bs' ≤ bs) (hr : (rest.map fun v => v.category).sum ≤ 8)
    (k : ∀ (v : Option Value) (h' : xH), Q' (.inl v) h' → V G M d bc' bs' Q (pc + 3) ls (v.toList ++ rest) h') (kx : ∀ (E : String) (h' : xH), Q' (.inr E) h' → VX G M d bc' bs' Q pc ls E h') : V G M d bc bs Q pc ls st h := by
  intro p e R s m args below meth c H locs cells slots la C hP hS hl h1 h2
  obtain ⟨⟨c1, c2⟩, ⟨c3, c4⟩, ⟨c5, c6, c7⟩, c8, c9⟩ := cs
  have hg : GoodIn lw_good (Cond.codeWith M'.1 M'.2.1 M'.2.2.1 M'.2.2.2.1 M'.2.2.2.2 :: lw_good) := fun w hw => (List.mem_cons.mp hw).elim (fun e => by rw [e]; exact lw_goodIn _ c3) (lw_goodIn w)
  have hroom := C.room (mc := mc) (ms := ms) hd c2
  refine V_run C hS hl h1 h2 (vx_runSX C.fix (xMetH c1 rfl hlen hV) ⟨⟨rfl, rfl, hroom.1, hroom.2, pay_in C.ts hg, List.mem_cons_self⟩, C.ts _ c3, C.ts _ c4, ⟨c5, c6⟩, fun sig hz => ?_, C.ts _ c8, C.ts _ c9⟩ (C.pre hP hS) rfl hn hl.1 hst (lv_room hr) dg ⟨by omega, by omega⟩) hbc hbs k kx
  rw [hz] at c7
  exact (Option.some.inj c7).symm
/-- System.arraycopy of ints -/
theorem V_copy {a0 a n0 n1 : Nat} {f g : Nat → Int32} {sp dp n : Int32} (dg : decode M.2.1 pc = .ok (.invokestatic idx, 3)) (w1 : Cond.methodLink M.1.cls idx arraycopyName ∈ lw_good) (w2 : Cond.native arraycopyName ∈ lw_good ∧ Cond.static arraycopyName ∈ lw_good ∧ Cond.initialized "java/lang/System" ∈ lw_good) (ha0 : h.1 a0 = some (.inl (0, n0, .inl f))) (ha1 : h.1 a = some (.inl (0, n1, .inl g))) (ha : gB G ≤ a)
    (g1 : ¬ sp < 0) (g2 : ¬ dp < 0) (g3 : ¬ n < 0) (g4 : sp.toNatClampNeg + n.toNatClampNeg ≤ n0) (g5 : dp.toNatClampNeg + n.toNatClampNeg ≤ n1) (hd : 1 ≤ d) (hr : (st.map fun v => v.category).sum ≤ 8)
    (kk : V G M d bc bs Q (pc + 3) ls st (xU h a (.inl (0, n1, .inl (va_cpy f g sp.toNatClampNeg dp.toNatClampNeg n.toNatClampNeg))))) : V G M d bc bs Q pc ls (.int n :: .int dp :: .ref a :: .int sp :: .ref a0 :: st) h := by
  intro p e R s m args below meth c H locs cells slots la C hP hS hl h1 h2
  have b := C.lo
  have e9 : nativeFrameWords "java/lang/System" "arraycopy" 5 + 11 ≤ 40 := by decide
  have nn : ∀ z : Int32, ¬ z < 0 → z.toInt = (z.toNatClampNeg : Int) := by
    intro z hz
    have hz0 : (0 : Int) ≤ z.toInt := by
      have := Int32.not_lt.mp hz
      simpa using Int32.le_iff_toInt_le.mp this
    show z.toInt = ((z.toInt.toNat : Nat) : Int)
    omega
  intro T hT X
  have hc0 : H[a0]? = some (vp_cell (gC G 0) (n0, .inl f)) := hP.1 _ _ ha0
  have hc1 : H[a]? = some (vp_cell (gC G 0) (n1, .inl g)) := hP.1 _ _ ha1
  obtain ⟨-, k0, hk0, cm0, hkk0⟩ := (C.K.2 0 _ rfl).1 n0 (fun j => .int (f j))
  obtain ⟨-, k1, hk1, cm1, hkk1⟩ := (C.K.2 0 _ rfl).1 n1 (fun j => .int (g j))
  obtain ⟨vm', X', step⟩ := X.arraycopy C.x C.own (C.ts _ w1) (C.ts _ w2.1) (C.ts _ w2.2.1) (C.ts _ w2.2.2) (src := a0) (dst := a) (cs := vp_cell (gC G 0) (n0, .inl f)) (cd := vp_cell (gC G 0) (n1, .inl g)) (srcPos := sp) (destPos := dp) (n := n) (by rw [hT]; exact hc0) (by rw [hT]; exact hc1)
    (fun _ h => by cases h) (fun _ h => by cases h) (fun h => by cases h) (fun h => by cases h) hk0 hk1 hkk0 hkk1 (by simp [refKind]) g1 g2 g3
    (by rw [nn sp g1, nn n g3]; show ¬ _ > ((arrV (gC G 0) n0 (fun j => .int (f j))).slots.size : Int); rw [arrV_size]; omega)
    (by rw [nn dp g2, nn n g3]; show ¬ _ > ((arrV (gC G 0) n1 (fun j => .int (g j))).slots.size : Int); rw [arrV_size]; omega)
    (fun vm₁ _ i hi => by
      have e : (vp_cell (gC G 0) (n0, .inl f)).slots.getD (sp.toNatClampNeg + i) .null = .int (f (sp.toNatClampNeg + i)) := by
        show (arrV (gC G 0) n0 (fun j => .int (f j))).slots.getD _ _ = _
        rw [Array.getD_eq_getD_getElem?, arrV_read _ _ (by omega)]
        rfl
      refine ⟨?_, ?_⟩
      · rw [e]
        rfl
      · rw [e]
        exact trivial)
    (g := F0 m pc la (.int n :: .int dp :: .ref a :: .int sp :: .ref a0 :: st)) rfl (by rw [C.ml, hl.1]) (rest := st) rfl (by rw [C.b]; exact dg) (Nat.le_trans hd C.fr) (by show 2 * 0 + _ + _ ≤ _; omega)
  have e1 : copied (vp_cell (gC G 0) (n0, .inl f)) (vp_cell (gC G 0) (n1, .inl g)) sp dp n = vp_cell (gC G 0) (n1, .inl (va_cpy f g sp.toNatClampNeg dp.toNatClampNeg n.toNatClampNeg)) := va_copied (fun z => .int z) (gC G 0) (gC G 0) f g g4
  rw [e1] at X' step
  have hlt : a < H.size := (Array.getElem?_eq_some_iff.mp hc1).1
  have hheap : ((T.setVm vm').setCell a (vp_cell (gC G 0) (n1, .inl (va_cpy f g sp.toNatClampNeg dp.toNatClampNeg n.toNatClampNeg)))).heap = H.setIfInBounds a (vp_cell (gC G 0) (n1, .inl (va_cpy f g sp.toNatClampNeg dp.toNatClampNeg n.toNatClampNeg))) := by rw [← hT]; rfl
  have oq : ∀ q : Nat, q ≠ a → (H.setIfInBounds a (vp_cell (gC G 0) (n1, .inl (va_cpy f g sp.toNatClampNeg dp.toNatClampNeg n.toNatClampNeg))))[q]? = H[q]? := fun q hq => by simp [Array.getElem?_setIfInBounds, Ne.symm hq]
  obtain ⟨t, a1, b1⟩ := kk p e R s m args below meth c _ _ cells slots la C (hP.set (show (H.setIfInBounds a _)[a]? = some (vp_cell (gC G 0) _) by simp [Array.getElem?_setIfInBounds, hlt]) (by simp) oq) ⟨by simp; exact hS.1, fun q g1 g2 => by
      rw [oq q (fun e => g2 (by rw [e]; exact ha))]
      exact hS.2.1 q g1 g2, fun q hq => by
      rcases List.mem_append.mp hq with h | h
      · exact hS.2.2 q h
      · obtain ⟨z, -, hz⟩ := List.mem_map.mp h
        rw [← hz]
        exact ha⟩ hl h1 h2 _ hheap X'
  exact ⟨t, step t a1, b1⟩
/-- an array of Strings is made -/
theorem V_anew {a N : Nat} {n : Int32} (dg : decode M.2.1 pc = .ok (.anewarray idx, 3)) (hw : Cond.classLink M.1.cls idx "java/lang/String" ∈ lw_good) (hn : ¬ n < 0) (hN : n.toNatClampNeg = N) (hbytes : N * 4 ≤ 536870912) (ha : h.2 = some a) (k : gB G ≤ a → V G M d bc bs Q (pc + 3) ls (.ref a :: st) (xN h a (.inl (4, N, .inr (.inr (.inr (.inr (fun _ => none)))))))) : V G M d (bc + 1) (bs + N) Q pc ls (.int n :: st) h := by
  intro p e R s m args below meth c H locs cells slots la C hP hS hl h1 h2
  have hsz := hP.2 a ha
  subst hN
  refine W.anew C.x C.b C.own (C.ts _ hw) (va_AO.use C.w.ao) rfl dg rfl hn hbytes (by omega) (by omega) fun cA kA comp f1 f2 f3 f4 => ?_
  generalize hH1 : H.push ({ cls := cA, slots := Array.replicate n.toNatClampNeg .null, vm := .none } : Cell) = H1
  have z1 : H1.size = H.size + 1 := by rw [← hH1, Array.size_push]
  have e1 : H1[H.size]? = some (arrV cA n.toNatClampNeg (fun _ => .null)) := by rw [← hH1, Array.getElem?_push_size, ← arrV_new]
  have o1 : ∀ q : Nat, q < H.size → H1[q]? = H[q]? := fun q hq => by rw [← hH1, Array.getElem?_push, if_neg (Nat.ne_of_lt hq)]
  obtain ⟨kA9, comp9, r1, r2, r3, r4⟩ := (C.K.2 4 _ rfl).2
  have hcA : cA = gC G 4 := Option.some.inj (f1.symm.trans r4)
  subst hcA
  have hb : gB G ≤ a := by rw [← hsz]; exact Nat.le_trans C.w.bs hS.1
  have := hP.new (e := .inl (4, n.toNatClampNeg, .inr (.inr (.inr (.inr (fun _ => none)))))) (H1 := H1) e1 z1 o1
  rw [hsz] at this ⊢
  exact k hb p e R s m args below meth c H1 locs (cells + 1) (slots + n.toNatClampNeg) la C this ⟨by have := hS.1; omega, fun x q1 q2 => (o1 x (by have := hS.1; omega)).trans (hS.2.1 x q1 q2), hS.2.2⟩ hl (by omega) (by omega)
/-- a String constant is put into an array of Strings -/
theorem V_aast {a n i9 : Nat} {f : Nat → Option Nat} {i : Int32} {q9 : String × Nat × String × List Int32} (dg : decode M.2.1 pc = .ok (.aastore, 1)) (hh : h.1 a = some (.inl (4, n, .inr (.inr (.inr (.inr f)))))) (ha : gB G ≤ a) (hs : xStr[i9]? = some q9) (hin : vp_in i n) (k : V G M d bc bs Q (pc + 1) ls st (xU h a (.inl (4, n, .inr (.inr (.inr (.inr (va_up f i.toNatClampNeg (some (gK G i9)))))))))) : V G M d bc bs Q pc ls (.ref (gK G i9) :: .int i :: .ref a :: st) h := by
  intro p e R s m args below meth c H locs cells slots la C hP hS hl h1 h2
  have hlt : i.toNatClampNeg < n := Nat.not_le.mp fun q => hin (Or.inr q)
  have h0 : ¬ i < 0 := fun q => hin (Or.inl q)
  obtain ⟨cellV, g1, g3, g4, -⟩ := (C.w.str hs).2.1.kept hS.2.1
  obtain ⟨kC, hkC, -⟩ := Vm.findClass_spec g4
  obtain ⟨kA, comp, k1, k2, k3, -⟩ := (C.K.2 4 _ rfl).2
  have hcc : cellV.cls = comp := Option.some.inj (g4.symm.trans k3)
  refine W.aast C.x C.b (hP.1 _ _ hh) (fun q h => by cases h) (fun h => by cases h) k1 k2 rfl (hcc ▸ hkC) ⟨h0, by show _ < (arrV _ _ _).slots.size; rw [arrV_size]; exact hlt⟩ g1 (fun q h => by rw [h] at g3; cases g3) hkC (by rw [hcc]; exact va_asg _ _) rfl rfl dg fun H1 e z oq => ?_
  refine k p _ R s m args below meth c H1 _ cells slots la C (hP.set ?_ z oq) (hS.put z oq ha) hl h1 h2
  show H1[a]? = some (vp_cell _ _)
  rw [e]
  rw [vp_cell_q, vp_cell_q, arrV_store]
  congr 2
  funext q
  by_cases hq : q = i.toNatClampNeg
  · subst hq
    simp [updV, va_up, va_rf]
  · simp [updV, va_up, hq]
end VR6
