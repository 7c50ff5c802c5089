/-! ===== V: arrays, ends, making, the JDK's natives ===== -/
section VR3
variable {G : xG} {M : xM} {d bc bs : Nat} {Q : xR → xH → Prop} {pc : Nat} {ls : List (Option Value)} {st : List Value} {h : xH}
theorem V_iald {a n : Nat} {f : Nat → Int32} {i : Int32} (dg : decode M.2.1 pc = .ok (.iaload, 1)) (hh : h.1 a = some (.inl (0, n, .inl f))) (hin : vp_in i n) (k : V G M d bc bs Q (pc + 1) ls (.int (f i.toNatClampNeg) :: st) h) : V G M d bc bs Q pc ls (.int i :: .ref a :: st) h := fun p e R s m args below meth c H locs cells slots la C hP hS hl h1 h2 =>
  va_iald C.x C.b C.K (xAt.P (n := 0) (hP.1 _ _ hh)) 0 0 rfl rfl hin dg (k p e R s m args below meth c H locs cells slots la C hP hS hl h1 h2)
theorem V_bald {a n : Nat} {f : Nat → Int32} {i : Int32} (dg : decode M.2.1 pc = .ok (.baload, 1)) (hh : h.1 a = some (.inl (1, n, .inl f))) (hin : vp_in i n) (k : V G M d bc bs Q (pc + 1) ls (.int (f i.toNatClampNeg) :: st) h) : V G M d bc bs Q pc ls (.int i :: .ref a :: st) h := fun p e R s m args below meth c H locs cells slots la C hP hS hl h1 h2 =>
  va_bald C.x C.b C.K (xAt.P (n := 0) (hP.1 _ _ hh)) 0 1 rfl rfl hin dg (k p e R s m args below meth c H locs cells slots la C hP hS hl h1 h2)
theorem V_zald {a n : Nat} {f : Nat → Int32} {i : Int32} (dg : decode M.2.1 pc = .ok (.baload, 1)) (hh : h.1 a = some (.inl (2, n, .inl f))) (hin : vp_in i n) (k : V G M d bc bs Q (pc + 1) ls (.int (f i.toNatClampNeg) :: st) h) : V G M d bc bs Q pc ls (.int i :: .ref a :: st) h := fun p e R s m args below meth c H locs cells slots la C hP hS hl h1 h2 =>
  va_zald C.x C.b C.K (xAt.P (n := 0) (hP.1 _ _ hh)) 0 2 rfl rfl hin dg (k p e R s m args below meth c H locs cells slots la C hP hS hl h1 h2)
theorem V_lald {a n : Nat} {f : Nat → Int64} {i : Int32} (dg : decode M.2.1 pc = .ok (.laload, 1)) (hh : h.1 a = some (.inl (3, n, .inr (.inl f)))) (hin : vp_in i n) (k : V G M d bc bs Q (pc + 1) ls (.long (f i.toNatClampNeg) :: st) h) : V G M d bc bs Q pc ls (.int i :: .ref a :: st) h := fun p e R s m args below meth c H locs cells slots la C hP hS hl h1 h2 =>
  va_lald C.x C.b C.K (xAt.P (n := 0) (hP.1 _ _ hh)) 0 3 rfl rfl hin dg (k p e R s m args below meth c H locs cells slots la C hP hS hl h1 h2)
theorem V_aald {a n : Nat} {f : Nat → Option Nat} {i : Int32} (dg : decode M.2.1 pc = .ok (.aaload, 1)) (hh : h.1 a = some (.inl (4, n, .inr (.inr (.inr (.inr f)))))) (hin : vp_in i n) (k : V G M d bc bs Q (pc + 1) ls (va_rf (f i.toNatClampNeg) :: st) h) : V G M d bc bs Q pc ls (.int i :: .ref a :: st) h := fun p e R s m args below meth c H locs cells slots la C hP hS hl h1 h2 =>
  va_aldq C.x C.b C.K (xAt.P (n := 0) (hP.1 _ _ hh)) 0 4 rfl rfl hin dg (k p e R s m args below meth c H locs cells slots la C hP hS hl h1 h2)
theorem V_alen {a t n : Nat} {x : vp_A} {v : Int32} (dg : decode M.2.1 pc = .ok (.arraylength, 1)) (hh : h.1 a = some (.inl (t, x))) (ht : t < 5) (hv : Int32.ofNat x.1 = v) (k : V G M d bc bs Q (pc + 1) ls (.int v :: st) h) : V G M d bc bs Q pc ls (.ref a :: st) h := by
  intro p e R s m args below meth c H locs cells slots la C hP hS hl h1 h2
  have kk := k p e R s m args below meth c H locs cells slots la C hP hS hl h1 h2
  rcases (show t = 0 ∨ t = 1 ∨ t = 2 ∨ t = 3 ∨ t = 4 by omega) with rfl | rfl | rfl | rfl | rfl
  · exact va_alen C.x C.b C.K (xAt.P (n := 0) (hP.1 _ _ hh)) 0 0 rfl rfl hv dg kk
  · exact va_alen C.x C.b C.K (xAt.P (n := 0) (hP.1 _ _ hh)) 0 1 rfl rfl hv dg kk
  · exact va_alen C.x C.b C.K (xAt.P (n := 0) (hP.1 _ _ hh)) 0 2 rfl rfl hv dg kk
  · exact va_alen C.x C.b C.K (xAt.P (n := 0) (hP.1 _ _ hh)) 0 3 rfl rfl hv dg kk
  · exact va_alen C.x C.b C.K (xAt.P (n := 0) (hP.1 _ _ hh)) 0 4 rfl rfl hv dg kk
theorem V_iast {a n : Nat} {f : Nat → Int32} {i : Int32} {x : Int32} (dg : decode M.2.1 pc = .ok (.iastore, 1)) (hh : h.1 a = some (.inl (0, n, .inl f))) (ha : gB G ≤ a) (hin : vp_in i n) (k : V G M d bc bs Q (pc + 1) ls st (xU h a (.inl (0, n, .inl (upd f i.toNatClampNeg x))))) : V G M d bc bs Q pc ls (.int x :: .int i :: .ref a :: st) h := by
  intro p e R s m args below meth c H locs cells slots la C hP hS hl h1 h2
  have hlt : i.toNatClampNeg < n := Nat.not_le.mp fun q => hin (Or.inr q)
  refine W.iast C.x C.b (hP.1 _ _ hh) ((C.K.2 0 _ rfl).1 n (fun j => .int (f j))) (fun q => by cases q) (by show ¬ (i < 0 ∨ (arrV _ _ _).slots.size ≤ _); rw [arrV_size]; exact hin) rfl rfl dg fun H1 e1 z oq => ?_
  refine k p e R s m args below meth c H1 _ cells slots la C (hP.set ?_ z oq) (hS.put z oq ha) hl h1 h2
  show H1[a]? = some (vp_cell _ _)
  rw [e1]
  rw [vp_cell_i, vp_cell_i, arrV_store]
  congr 2
  funext q
  by_cases hq : q = i.toNatClampNeg
  · subst hq
    simp [updV, upd, vp_updL, vp_nar]
    try rfl
  · simp [updV, upd, vp_updL, hq]
theorem V_bast {a n : Nat} {f : Nat → Int32} {i : Int32} {x : Int32} (dg : decode M.2.1 pc = .ok (.bastore, 1)) (hh : h.1 a = some (.inl (1, n, .inl f))) (ha : gB G ≤ a) (hin : vp_in i n) (k : V G M d bc bs Q (pc + 1) ls st (xU h a (.inl (1, n, .inl (upd f i.toNatClampNeg (vp_nar .byte x)))))) : V G M d bc bs Q pc ls (.int x :: .int i :: .ref a :: st) h := by
  intro p e R s m args below meth c H locs cells slots la C hP hS hl h1 h2
  have hlt : i.toNatClampNeg < n := Nat.not_le.mp fun q => hin (Or.inr q)
  refine W.bast C.x C.b (hP.1 _ _ hh) ((C.K.2 1 _ rfl).1 n (fun j => .int (f j))) (fun q => by cases q) (by show ¬ (i < 0 ∨ (arrV _ _ _).slots.size ≤ _); rw [arrV_size]; exact hin) rfl rfl dg fun H1 e1 z oq => ?_
  refine k p e R s m args below meth c H1 _ cells slots la C (hP.set ?_ z oq) (hS.put z oq ha) hl h1 h2
  show H1[a]? = some (vp_cell _ _)
  rw [e1]
  rw [vp_cell_i, vp_cell_i, arrV_store]
  congr 2
  funext q
  by_cases hq : q = i.toNatClampNeg
  · subst hq
    simp [updV, upd, vp_updL, vp_nar]
    try rfl
  · simp [updV, upd, vp_updL, hq]
theorem V_zast {a n : Nat} {f : Nat → Int32} {i : Int32} {x : Int32} (dg : decode M.2.1 pc = .ok (.bastore, 1)) (hh : h.1 a = some (.inl (2, n, .inl f))) (ha : gB G ≤ a) (hin : vp_in i n) (k : V G M d bc bs Q (pc + 1) ls st (xU h a (.inl (2, n, .inl (upd f i.toNatClampNeg (vp_nar .boolean x)))))) : V G M d bc bs Q pc ls (.int x :: .int i :: .ref a :: st) h := by
  intro p e R s m args below meth c H locs cells slots la C hP hS hl h1 h2
  have hlt : i.toNatClampNeg < n := Nat.not_le.mp fun q => hin (Or.inr q)
  refine W.zast C.x C.b (hP.1 _ _ hh) ((C.K.2 2 _ rfl).1 n (fun j => .int (f j))) (fun q => by cases q) (by show ¬ (i < 0 ∨ (arrV _ _ _).slots.size ≤ _); rw [arrV_size]; exact hin) rfl rfl dg fun H1 e1 z oq => ?_
  refine k p e R s m args below meth c H1 _ cells slots la C (hP.set ?_ z oq) (hS.put z oq ha) hl h1 h2
  show H1[a]? = some (vp_cell _ _)
  rw [e1]
  rw [vp_cell_i, vp_cell_i, arrV_store]
  congr 2
  funext q
  by_cases hq : q = i.toNatClampNeg
  · subst hq
    simp [updV, upd, vp_updL, vp_nar]
    try rfl
  · simp [updV, upd, vp_updL, hq]
theorem V_last {a n : Nat} {f : Nat → Int64} {i : Int32} {x : Int64} (dg : decode M.2.1 pc = .ok (.lastore, 1)) (hh : h.1 a = some (.inl (3, n, .inr (.inl f)))) (ha : gB G ≤ a) (hin : vp_in i n) (k : V G M d bc bs Q (pc + 1) ls st (xU h a (.inl (3, n, .inr (.inl (vp_updL f i.toNatClampNeg x)))))) : V G M d bc bs Q pc ls (.long x :: .int i :: .ref a :: st) h := by
  intro p e R s m args below meth c H locs cells slots la C hP hS hl h1 h2
  have hlt : i.toNatClampNeg < n := Nat.not_le.mp fun q => hin (Or.inr q)
  refine W.last C.x C.b (hP.1 _ _ hh) ((C.K.2 3 _ rfl).1 n (fun j => .long (f j))) (fun q => by cases q) (by show ¬ (i < 0 ∨ (arrV _ _ _).slots.size ≤ _); rw [arrV_size]; exact hin) rfl rfl dg fun H1 e1 z oq => ?_
  refine k p e R s m args below meth c H1 _ cells slots la C (hP.set ?_ z oq) (hS.put z oq ha) hl h1 h2
  show H1[a]? = some (vp_cell _ _)
  rw [e1]
  rw [vp_cell_l, vp_cell_l, arrV_store]
  congr 2
  funext q
  by_cases hq : q = i.toNatClampNeg
  · subst hq
    simp [updV, upd, vp_updL, vp_nar]
    try rfl
  · simp [updV, upd, vp_updL, hq]
theorem V_iret {v : Int32} (dg : decode M.2.1 pc = .ok (.ireturn, 1)) (hr : M.2.2.2.1 = some .int) (hq : Q (.inl (some (.int v))) h) : V G M d bc bs Q pc ls [.int v] h := fun p e R s m args below meth c H locs cells slots la C hP hS hl h1 h2 =>
  W.widen (k := R.cells) (n := R.slots) (by omega) (by omega) (vx_ret (W.iret C.x C.b (C.r.trans hr) (fun t ht hW => ⟨_, h, rfl, hq, by rw [ht]; exact hP, hS.F ht⟩) (fun q hq => hS.2.2 q hq) dg C.locks))
theorem V_zret {v : Int32} {ty : FieldType} (dg : decode M.2.1 pc = .ok (.ireturn, 1)) (hr : M.2.2.2.1 = some ty) (hn : narrow ty (.int v) = .int v) (hq : Q (.inl (some (.int v))) h) : V G M d bc bs Q pc ls [.int v] h := fun p e R s m args below meth c H locs cells slots la C hP hS hl h1 h2 =>
  W.widen (k := R.cells) (n := R.slots) (by omega) (by omega) (vx_ret (W.zret C.x C.b (C.r.trans hr) hn (fun t ht hW => ⟨_, h, rfl, hq, by rw [ht]; exact hP, hS.F ht⟩) (fun q hq => hS.2.2 q hq) dg C.locks))
theorem V_vret (dg : decode M.2.1 pc = .ok (.return_, 1)) (hr : M.2.2.2.1 = none) (hq : Q (.inl none) h) : V G M d bc bs Q pc ls [] h := fun p e R s m args below meth c H locs cells slots la C hP hS hl h1 h2 =>
  W.widen (k := R.cells) (n := R.slots) (by omega) (by omega) (vx_ret (W.vret C.x C.b (C.r.trans hr) (fun t ht hW => ⟨_, h, rfl, hq, by rw [ht]; exact hP, hS.F ht⟩) (fun q hq => hS.2.2 q hq) dg C.locks))
theorem V_aret {a : Nat} {rt : FieldType} (dg : decode M.2.1 pc = .ok (.areturn, 1)) (hr : M.2.2.2.1 = some rt) (hrt : (∃ n, rt = .object n) ∨ ∃ t, rt = .array t) (hq : Q (.inl (some (.ref a))) h) : V G M d bc bs Q pc ls [.ref a] h := fun p e R s m args below meth c H locs cells slots la C hP hS hl h1 h2 =>
  W.widen (k := R.cells) (n := R.slots) (by omega) (by omega) (vx_ret (W.aret C.x C.b (C.r.trans hr) hrt (Or.inr ⟨a, rfl⟩) (fun t ht hW => ⟨_, h, rfl, hq, by rw [ht]; exact hP, hS.F ht⟩) (fun q hq => hS.2.2 q hq) dg C.locks))
/-- a class that may be made: its number, its fields as they are at first -/
def NW (own : String) (idx ci N : Nat) (F : Nat → Value) : Prop := ∃ (C : String) (T : u_T) (ty : Nat → FieldType), xcl[ci]? = some (C, T, N) ∧ (∀ w ∈ u_ws C T N, w ∈ lw_good) ∧ (∀ k, k < N → parseFieldDescriptor (T k).2.2.1 = some (ty k)) ∧ (∀ k, k < N → defaultValue (ty k) = F k) ∧ Cond.classLink own idx C ∈ lw_good ∧ Cond.instantiable C N ∈ lw_good ∧ Cond.initialized C ∈ lw_good
theorem V_new {idx ci N a : Nat} {F : Nat → Value} (dg : decode M.2.1 pc = .ok (.new idx, 3)) (nw : NW M.1.cls idx ci N F) (ha : h.2 = some a) (k : gB G ≤ a → V G M d bc bs Q (pc + 3) ls (.ref a :: st) (xN h a (.inr (ci, F)))) : V G M d (bc + 1) (bs + N) Q pc ls st h := by
  intro p e R s m args below meth c H locs cells slots la C hP hS hl h1 h2
  obtain ⟨CC, T, ty, f1, f2, f3, f4, f5, f6, f7⟩ := nw
  have hsz := hP.2 a ha
  have hKn := C.K.1 ci _ f1
  refine W.newcK C.x C.b C.own (C.ts _ f5) (C.ts _ f6) (C.ts _ f7) rfl dg (by omega) (by omega) hKn.2.1 rfl fun H1 kC hkC e1 z1 o1 => ?_
  rw [hsz] at e1 z1 ⊢
  have hb : gB G ≤ a := by rw [← hsz]; exact Nat.le_trans C.w.bs hS.1
  refine k hb p e R s m args below meth c H1 locs (cells + 1) (slots + N) la C ?_ ⟨by have := hS.1; omega, fun x q1 q2 => (o1 x (by have := hS.1; omega)).trans (hS.2.1 x q1 q2), hS.2.2⟩ hl (by omega) (by omega)
  have := hP.new (e := .inr (ci, F)) (H1 := H1) (by rw [hsz]; exact ⟨_, f1, (u_born ty C.ts f2 hKn hkC e1 f3).to f4⟩) (by omega) (fun q hq => o1 q (by omega))
  rw [hsz] at this
  exact this
theorem V_newa {at_ : ArrayType} {t a N : Nat} {n : Int32} {x : vp_A} (dg : decode M.2.1 pc = .ok (.newarray at_, 2)) (hw : Cond.arrayClass (newarray.typeOf at_) ∈ lw_good) (ht : (xtys G)[t]? = some (gC G t, newarray.typeOf at_)) (hp : ∀ cA : ClassId, vp_cell cA x = arrV cA N (fun _ => defaultValue (newarray.typeOf at_))) (hnm : ∀ s cA, va_RA s cA (newarray.typeOf at_) → s.vm.findClass ("[" ++ (newarray.typeOf at_).toString) = some cA) (hn : ¬ n < 0) (hN : n.toNatClampNeg = N) (hbytes : N * componentBytes (newarray.typeOf at_) ≤ 536870912) (ha : h.2 = some a) (k : gB G ≤ a → V G M d bc bs Q (pc + 2) ls (.ref a :: st) (xN h a (.inl (t, x)))) : V G M d (bc + 1) (bs + N) Q pc ls (.int n :: st) h := by
  intro p e R s m args below meth c H locs cells slots la C hP hS hl h1 h2
  have hsz := hP.2 a ha
  refine va_newaK C.x C.b (C.ts _ hw) rfl dg rfl hn hN hbytes (by omega) (by omega) hsz fun H1 cA e1 z1 o1 hAr hNm => ?_
  have hcA : cA = gC G t := by
    have h9 := hnm s _ (C.K.2 t _ ht).2
    exact Option.some.inj (hNm.symm.trans h9)
  subst hcA
  have hb : gB G ≤ a := by rw [← hsz]; exact Nat.le_trans C.w.bs hS.1
  refine k hb p e R s m args below meth c H1 locs (cells + 1) (slots + N) la C ?_ ⟨by have := hS.1; omega, fun x q1 q2 => (o1 x (by have := hS.1; omega)).trans (hS.2.1 x q1 q2), hS.2.2⟩ hl (by omega) (by omega)
  have := hP.new (e := .inl (t, x)) (H1 := H1) (by rw [hsz]; show H1[a]? = some (vp_cell _ _); rw [hp]; exact e1) (by omega) (fun q hq => o1 q (by omega))
  rw [hsz] at this
  exact this
theorem V_max {idx : Nat} {x y : Int32} (dg : decode M.2.1 pc = .ok (.invokestatic idx, 3)) (w1 : Cond.methodLink M.1.cls idx Lib.Math.max.name ∈ lw_good) (w2 : Cond.static Lib.Math.max.name ∈ lw_good) (w3 : Cond.initialized "java/lang/Math" ∈ lw_good) (w4 : Cond.code Lib.Math.max.name Lib.Math.max.code 2 (some .int) ∈ lw_good) (hd : 1 ≤ d) (hr : (st.map fun v => v.category).sum ≤ 8) (k : V G M d bc bs Q (pc + 3) ls (.int (if x < y then y else x) :: st) h) : V G M d bc bs Q pc ls (.int y :: .int x :: st) h := fun p e R s m args below meth c H locs cells slots la C hP hS hl h1 h2 =>
  va_mmax C.x C.b (C.ml.trans hl.1.symm) C.own (C.ts _ w1) (C.ts _ w2) (C.ts _ w3) (C.ts _ w4) (Nat.le_trans hd C.fr) (by have := C.lo; omega) (by omega) (by omega) dg (k p e R s m args below meth c H locs cells slots la C hP hS hl h1 h2)
theorem V_min {idx : Nat} {x y : Int32} (dg : decode M.2.1 pc = .ok (.invokestatic idx, 3)) (w1 : Cond.methodLink M.1.cls idx Lib.Math.min.name ∈ lw_good) (w2 : Cond.static Lib.Math.min.name ∈ lw_good) (w3 : Cond.initialized "java/lang/Math" ∈ lw_good) (w4 : Cond.code Lib.Math.min.name Lib.Math.min.code 2 (some .int) ∈ lw_good) (hd : 1 ≤ d) (hr : (st.map fun v => v.category).sum ≤ 8) (k : V G M d bc bs Q (pc + 3) ls (.int (if y < x then y else x) :: st) h) : V G M d bc bs Q pc ls (.int y :: .int x :: st) h := fun p e R s m args below meth c H locs cells slots la C hP hS hl h1 h2 =>
  va_mmin C.x C.b (C.ml.trans hl.1.symm) C.own (C.ts _ w1) (C.ts _ w2) (C.ts _ w3) (C.ts _ w4) (Nat.le_trans hd C.fr) (by have := C.lo; omega) (by omega) (by omega) dg (k p e R s m args below meth c H locs cells slots la C hP hS hl h1 h2)
end VR3
