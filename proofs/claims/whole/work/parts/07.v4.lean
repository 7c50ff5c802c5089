/-! ===== V: calls ===== -/
section VR4
variable {G : xG} {M M' : xM} {d d' bc bs bc' bs' mc ms : Nat} {Q Q' : xR → xH → Prop} {pc idx n : Nat} {ls : List (Option Value)} {st As rest : List Value} {h : xH}
def xRm (d mc ms : Nat) : Room := { frames := d, cells := mc, slots := ms, locals := 64 * d }
def xPre (G : xG) (h : xH) (As : List Value) : Array Value → State → Prop := fun a U => a = As.toArray ∧ xP G h U.heap ∧ xW G U
theorem xPre.blind : FrameBlind (xPre G h As) := fun _ _ _ _ q => ⟨q.1, q.2.1, q.2.2.same rfl rfl⟩
/-- the locals at a method's entry -/
def xEnt (As : List Value) (n : Nat) : List (Option Value) := (lg_sl As ++ List.replicate (n - (lg_sl As).length) Slot.unset).map fun z => match z with
  | .val v => some v
  | _ => none
theorem xEnt_ls (hn : (lg_sl As).length ≤ n) : xLs ((lg_sl As ++ List.replicate (n - (lg_sl As).length) Slot.unset).toArray) n (xEnt As n) := by
  obtain ⟨a1, a2, -⟩ := lv_entry As hn
  refine ⟨a1, a2, fun j v hj => ?_⟩
  rw [xEnt, List.getElem?_map] at hj
  rw [List.getElem?_toArray]
  cases hz : (lg_sl As ++ List.replicate (n - (lg_sl As).length) Slot.unset)[j]? with
  | none => rw [hz] at hj; cases hj
  | some z =>
    rw [hz] at hj
    cases z with
    | val w => cases hj; rfl
    | unset => cases hj
    | second => cases hj
/-- a body that is walked is a contract -/
theorem xMet (hp : plainName M.1.cls = true) (ht : M.2.2.2.2 = []) (hn : (lg_sl As).length ≤ M.2.2.1) (hV : V G M d mc ms Q 0 (xEnt As M.2.2.1) [] h) :
    vx_Met (gL G) M.1 (Cond.code M.1 M.2.1 M.2.2.1 M.2.2.2.1 :: lw_good) (xRm d mc ms) (xPre G h As) (xQ G Q) (xX G Q) mc ms (xSA G) := by
  refine vx_ofW hp rfl ?_
  intro p e s m args below meth c s₁ B hml ht0 hv
  obtain ⟨rfl, hP, hw⟩ := hv
  rw [lg_entry_eq]
  refine hV p e (xRm d mc ms) s m _ below meth c s.heap [] 0 0 _ ⟨B.exec, B.bytes, B.returns, hml, findClass_of_methodNamed B.named, fun w hw => atoms_spec B.pre w (List.mem_cons_of_mem _ hw), B.notSynchronized, (name_of_methodNamed B.named B.method).1, ?_, Nat.le_refl _, Nat.le_refl _, hw⟩ hP va_S.rf (xEnt_ls hn) (Nat.le_of_eq (Nat.zero_add _)) (Nat.le_of_eq (Nat.zero_add _))
  rw [ht]
  exact List.eq_nil_iff_forall_not_mem.mpr (fun x hx => ht0 x hx)
theorem xMetH {hh : List (Nat × Nat × Nat × Nat)} (hp : plainName M.1.cls = true) (ht : M.2.2.2.2 = hh) (hn : (lg_sl As).length ≤ M.2.2.1) (hV : V G M d mc ms Q 0 (xEnt As M.2.2.1) [] h) :
    vx_Met (gL G) M.1 (Cond.codeWith M.1 M.2.1 M.2.2.1 M.2.2.2.1 hh :: lw_good) (xRm d mc ms) (xPre G h As) (xQ G Q) (xX G Q) mc ms (xSA G) := by
  refine vx_ofWH hp rfl ?_
  intro p e s m args below meth c s₁ B hml hv
  obtain ⟨rfl, hP, hw⟩ := hv
  have htab := vx_table (x := M.1) B (atoms_spec B.pre _ List.mem_cons_self)
  rw [lg_entry_eq]
  exact hV p e (xRm d mc ms) s m _ below meth c s.heap [] 0 0 _ ⟨B.exec, B.bytes, B.returns, hml, findClass_of_methodNamed B.named, fun w hw => atoms_spec B.pre w (List.mem_cons_of_mem _ hw), B.notSynchronized, (name_of_methodNamed B.named B.method).1, by rw [ht]; exact htab, Nat.le_refl _, Nat.le_refl _, hw⟩ hP va_S.rf (xEnt_ls hn) (Nat.le_of_eq (Nat.zero_add _)) (Nat.le_of_eq (Nat.zero_add _))
theorem V_run {p : Program} {e : Env} {R : Room} {s : State} {m : MethodId} {args : Array Value} {below : List Frame} {meth : Method} {c : Code} {H : Heap} {locs : List Loc} {cells slots : Nat} {la : Array Slot} {a : Array Value} {st0 : List Value}
    (C : xCtx G M d p R s m args meth c) (hS : va_S (xSA G) s.heap H locs) (hl : xLs la M.2.2.1 ls) (h1 : cells + bc ≤ R.cells) (h2 : slots + bs ≤ R.slots)
    (hr : vx_Run p (gL G) e R s m args below meth c H locs cells slots mc ms (F0 m pc la st0) rest (xQ G Q' a) (xX G Q') (xSA G)) (hbc : mc + bc' ≤ bc) (hbs : ms + bs' ≤ bs)
    (k : ∀ (v : Option Value) (h' : xH), Q' (.inl v) h' → V G M d bc' bs' Q (pc + 3) ls (v.toList ++ rest) h') (kx : ∀ (E : String) (h' : xH), Q' (.inr E) h' → VX G M d bc' bs' Q pc ls E h') :
    W p (gL G) e R s m args below meth c H locs cells slots (vx_MQ below (xQ G Q) (xX G Q) args s R.cells R.slots (xSA G)) (F0 m pc la st0) := by
  intro T hT X
  rcases hr T hT X with ⟨v, st₀, t, T', L, h0, X', hL, e1, e2, ⟨v', h', hv, hq, hp, hF⟩, stp⟩ | ⟨q, st₀, t, T', L, E, ce, h0, X', hL, e1, e2, ⟨h', hq, hp, hF⟩, hce, hcv, hcl, stp⟩
  · cases hv
    obtain ⟨k1, k2, k3⟩ := vx_keep h0 e1 hS (A1 := xSA G) (fun q _ hz => hz) (fun q hz => hz) hL hF
    obtain ⟨t2, a1, b1⟩ := k v h' hq p e R s m args below meth c T'.heap (locs ++ L) (cells + mc) (slots + ms) la C (by rw [e1]; exact hp) k3 hl (by omega) (by omega) T' rfl X'
    exact ⟨t2, stp t2 a1, b1⟩
  · obtain ⟨k1, k2, k3⟩ := vx_keep h0 e1 hS (A1 := xSA G) (fun q _ hz => hz) (fun q hz => hz) hL hF
    obtain ⟨t2, a1, b1⟩ := kx E h' hq p e R s m args below meth c T'.heap (locs ++ L) (cells + mc) (slots + ms) la rest q ce C (by rw [e1]; exact hp) k3 hl (by omega) (by omega) (by rw [e1]; exact hce) hcv hcl T' rfl X'
    exact ⟨t2, stp.trans a1, b1⟩
/-- what a call needs to know of its callee -/
def CM (own : String) (idx : Nat) (M' : xM) (n : Nat) : Prop := (plainName M'.1.cls = true ∧ M'.2.2.2.2 = [] ∧ M'.2.2.1 ≤ 45) ∧ (Cond.code M'.1 M'.2.1 M'.2.2.1 M'.2.2.2.1 ∈ lw_good ∧ Cond.initialized M'.1.cls ∈ lw_good) ∧ (M'.1.cls ≠ "java/lang/invoke/MethodHandle" ∧ M'.1.cls ≠ "java/lang/invoke/VarHandle" ∧ (parseMethodDescriptor M'.1.desc).map (fun d => d.parameters.length) = some n)
theorem CM.good {own : String} {ix : Nat} (cm : CM own ix M' n) : GoodIn lw_good (Cond.code M'.1 M'.2.1 M'.2.2.1 M'.2.2.2.1 :: lw_good) := fun w hw => (List.mem_cons.mp hw).elim (fun e => by rw [e]; exact lw_goodIn _ cm.2.1.1) (lw_goodIn w)
def CS (own : String) (idx : Nat) (M' : xM) (n : Nat) : Prop := CM own idx M' n ∧ Cond.methodLink own idx M'.1 ∈ lw_good ∧ Cond.static M'.1 ∈ lw_good
def CSN (own : String) (idx : Nat) (M' : xM) (n : Nat) : Prop := CM own idx M' n ∧ (∃ host, (own, idx, M'.1, host) ∈ xNestM) ∧ Cond.static M'.1 ∈ lw_good
def CV (own : String) (idx : Nat) (M' : xM) (n : Nat) (ci : Nat) : Prop := CM own idx M' n ∧ (∃ (C : String) (T : u_T) (N : Nat), xcl[ci]? = some (C, T, N) ∧ Cond.methodLink own idx M'.1 ∈ lw_good ∧ Cond.instanceMethod M'.1 ∈ lw_good ∧ Cond.selects C M'.1 M'.1 ∈ lw_good)
def CI (own : String) (idx : Nat) (M' : xM) (n : Nat) : Prop := CM own idx M' n ∧ M'.2.2.2.1 = none ∧ M'.1.name = "<init>" ∧ Cond.methodLink own idx M'.1 ∈ lw_good ∧ Cond.instanceMethod M'.1 ∈ lw_good
def CIN (own : String) (idx : Nat) (M' : xM) (n : Nat) : Prop := CM own idx M' n ∧ M'.2.2.2.1 = none ∧ M'.1.name = "<init>" ∧ (∃ host, (own, idx, M'.1, host) ∈ xNestM) ∧ Cond.instanceMethod M'.1 ∈ lw_good
theorem xCtx.fix {p R s m args meth c} (C : xCtx G M d p R s m args meth c) : CallFix p m c M.2.1 M.2.2.1 s args lw_good M.1.cls := ⟨C.x, C.b, C.ml, C.own, C.ts⟩
theorem xCtx.room {p R s m args meth c} (C : xCtx G M d p R s m args meth c) (hd : d' + 1 ≤ d) (hm : M'.2.2.1 ≤ 45) : (xRm d' mc ms).frames + 1 ≤ R.frames ∧ 8 + (M'.2.2.1 + 11) + (xRm d' mc ms).locals ≤ R.locals := by
  have a := C.fr
  have b := C.lo
  show d' + 1 ≤ R.frames ∧ 8 + (M'.2.2.1 + 11) + 64 * d' ≤ R.locals
  omega
theorem xCtx.pre {p R s m args meth c} {H : Heap} {locs : List Loc} (C : xCtx G M d p R s m args meth c) (hP : xP G h H) (hS : va_S (xSA G) s.heap H locs) : PreS s H (xPre G h As) As := ⟨xPre.blind, fun U hU hW => ⟨rfl, by rw [hU]; exact hP, C.w.go hW (by rw [hU]; exact hS)⟩⟩
theorem V_callS (dg : decode M.2.1 pc = .ok (.invokestatic idx, 3)) (cs : CS M.1.cls idx M' n) (hV : V G M' d' mc ms Q' 0 (xEnt As M'.2.2.1) [] h) (hn : As.length = n) (hlen : (lg_sl As).length ≤ M'.2.2.1) (hst : st = As.reverse ++ rest) (hd : d' + 1 ≤ d) (hbc : mc + bc' ≤ bc) (hbs : ms + bs' ≤ bs) (hr : (rest.map fun v => v.category).sum ≤ 8)
    (k : ∀ (v : Option Value) (h' : xH), Q' (.inl v) h' → V G M d bc' bs' Q (pc + 3) ls (v.toList ++ rest) h') (kx : ∀ (E : String) (h' : xH), Q' (.inr E) h' → VX G M d bc' bs' Q pc ls E h') : V G M d bc bs Q pc ls st h := by
  intro p e R s m args below meth c H locs cells slots la C hP hS hl h1 h2
  obtain ⟨cm, w1, w2⟩ := cs
  exact V_run C hS hl h1 h2 (vx_runS C.fix (xMet cm.1.1 cm.1.2.1 hlen hV) ⟨callB_of n C.ts cm.good rfl rfl rfl (C.ts _ cm.2.1.2) (C.ts _ w1) cm.2.2 (C.room hd cm.1.2.2), C.ts _ w2⟩ (C.pre hP hS) rfl hn hl.1 hst (lv_room hr) dg ⟨by omega, by omega⟩) hbc hbs k kx
theorem V_callSN (dg : decode M.2.1 pc = .ok (.invokestatic idx, 3)) (cs : CSN M.1.cls idx M' n) (hV : V G M' d' mc ms Q' 0 (xEnt As M'.2.2.1) [] h) (hn : As.length = n) (hlen : (lg_sl As).length ≤ M'.2.2.1) (hst : st = As.reverse ++ rest) (hd : d' + 1 ≤ d) (hbc : mc + bc' ≤ bc) (hbs : ms + bs' ≤ bs) (hr : (rest.map fun v => v.category).sum ≤ 8)
    (k : ∀ (v : Option Value) (h' : xH), Q' (.inl v) h' → V G M d bc' bs' Q (pc + 3) ls (v.toList ++ rest) h') (kx : ∀ (E : String) (h' : xH), Q' (.inr E) h' → VX G M d bc' bs' Q pc ls E h') : V G M d bc bs Q pc ls st h := by
  intro p e R s m args below meth c H locs cells slots la C hP hS hl h1 h2
  obtain ⟨cm, ⟨host, w1⟩, w2⟩ := cs
  exact V_run C hS hl h1 h2 (vx_runSN C.fix (xMet cm.1.1 cm.1.2.1 hlen hV) ⟨va_cnB n C.ts cm.good rfl rfl rfl (C.w.2.1 _ w1) (C.ts _ cm.2.1.2) cm.2.2 (C.room hd cm.1.2.2), C.ts _ w2, trivial⟩ (C.pre hP hS) rfl hn hl.1 hst (lv_room hr) dg ⟨by omega, by omega⟩) hbc hbs k kx
theorem V_callV {ci b : Nat} {F : Nat → Value} (dg : decode M.2.1 pc = .ok (.invokevirtual idx, 3)) (cs : CV M.1.cls idx M' n ci) (hh : h.1 b = some (.inr (ci, F))) (hV : V G M' d' mc ms Q' 0 (xEnt (.ref b :: As) M'.2.2.1) [] h) (hn : As.length = n) (hlen : (lg_sl (.ref b :: As)).length ≤ M'.2.2.1) (hst : st = As.reverse ++ .ref b :: rest) (hd : d' + 1 ≤ d) (hbc : mc + bc' ≤ bc) (hbs : ms + bs' ≤ bs) (hr : (rest.map fun v => v.category).sum ≤ 8)
    (k : ∀ (v : Option Value) (h' : xH), Q' (.inl v) h' → V G M d bc' bs' Q (pc + 3) ls (v.toList ++ rest) h') (kx : ∀ (E : String) (h' : xH), Q' (.inr E) h' → VX G M d bc' bs' Q pc ls E h') : V G M d bc bs Q pc ls st h := by
  intro p e R s m args below meth c H locs cells slots la C hP hS hl h1 h2
  obtain ⟨cm, CC, T, N, f1, w1, w2, w3⟩ := cs
  obtain ⟨r, g1, cell, q1, q2, q3, q4⟩ := hP.1 _ _ hh
  have hfc := (C.K.1 ci _ f1).2.1
  exact V_run C hS hl h1 h2 (vx_runV C.fix (xMet cm.1.1 cm.1.2.1 hlen hV) ⟨callB_of n C.ts cm.good rfl rfl rfl (C.ts _ cm.2.1.2) (C.ts _ w1) cm.2.2 (C.room hd cm.1.2.2), C.ts _ w2, C.ts _ w3⟩ ⟨(C.pre (As := .ref b :: As) hP hS).1, ⟨cell, q1, by rw [q3]; rfl, by rw [q2]; exact hfc⟩, (C.pre (As := .ref b :: As) hP hS).2⟩ rfl hn hl.1 hst (lv_room hr) dg ⟨by omega, by omega⟩) hbc hbs k kx
theorem V_callI {b : Nat} (dg : decode M.2.1 pc = .ok (.invokespecial idx, 3)) (cs : CI M.1.cls idx M' n) (hV : V G M' d' mc ms Q' 0 (xEnt (.ref b :: As) M'.2.2.1) [] h) (hn : As.length = n) (hlen : (lg_sl (.ref b :: As)).length ≤ M'.2.2.1) (hst : st = As.reverse ++ .ref b :: rest) (hd : d' + 1 ≤ d) (hbc : mc + bc' ≤ bc) (hbs : ms + bs' ≤ bs) (hr : (rest.map fun v => v.category).sum ≤ 8)
    (k : ∀ (v : Option Value) (h' : xH), Q' (.inl v) h' → V G M d bc' bs' Q (pc + 3) ls (v.toList ++ rest) h') (kx : ∀ (E : String) (h' : xH), Q' (.inr E) h' → VX G M d bc' bs' Q pc ls E h') : V G M d bc bs Q pc ls st h := by
  intro p e R s m args below meth c H locs cells slots la C hP hS hl h1 h2
  obtain ⟨cm, hret, hin, w1, w2⟩ := cs
  have hw : (Cond.code M'.1 M'.2.1 M'.2.2.1 M'.2.2.2.1 :: lw_good) = Cond.code M'.1 M'.2.1 M'.2.2.1 none :: lw_good := by rw [hret]
  exact V_run C hS hl h1 h2 (vx_runI C.fix (xMet cm.1.1 cm.1.2.1 hlen hV) ⟨callB_of n C.ts cm.good hw rfl rfl (C.ts _ cm.2.1.2) (C.ts _ w1) cm.2.2 (C.room hd cm.1.2.2), hin, C.ts _ w2⟩ (C.pre (As := .ref b :: As) hP hS) rfl hn hl.1 hst (lv_room hr) dg ⟨by omega, by omega⟩) hbc hbs k kx
theorem V_callIN {b : Nat} (dg : decode M.2.1 pc = .ok (.invokespecial idx, 3)) (cs : CIN M.1.cls idx M' n) (hV : V G M' d' mc ms Q' 0 (xEnt (.ref b :: As) M'.2.2.1) [] h) (hn : As.length = n) (hlen : (lg_sl (.ref b :: As)).length ≤ M'.2.2.1) (hst : st = As.reverse ++ .ref b :: rest) (hd : d' + 1 ≤ d) (hbc : mc + bc' ≤ bc) (hbs : ms + bs' ≤ bs) (hr : (rest.map fun v => v.category).sum ≤ 8)
    (k : ∀ (v : Option Value) (h' : xH), Q' (.inl v) h' → V G M d bc' bs' Q (pc + 3) ls (v.toList ++ rest) h') (kx : ∀ (E : String) (h' : xH), Q' (.inr E) h' → VX G M d bc' bs' Q pc ls E h') : V G M d bc bs Q pc ls st h := by
  intro p e R s m args below meth c H locs cells slots la C hP hS hl h1 h2
  obtain ⟨cm, hret, hin, ⟨host, w1⟩, w2⟩ := cs
  have hw : (Cond.code M'.1 M'.2.1 M'.2.2.1 M'.2.2.2.1 :: lw_good) = Cond.code M'.1 M'.2.1 M'.2.2.1 none :: lw_good := by rw [hret]
  exact V_run C hS hl h1 h2 (vx_runIN C.fix (xMet cm.1.1 cm.1.2.1 hlen hV) ⟨va_cnB n C.ts cm.good hw rfl rfl (C.w.2.1 _ w1) (C.ts _ cm.2.1.2) cm.2.2 (C.room hd cm.1.2.2), hin, C.ts _ w2⟩ (C.pre (As := .ref b :: As) hP hS) rfl hn hl.1 hst (lv_room hr) dg ⟨by omega, by omega⟩) hbc hbs k kx
/-- Object's constructor -/
theorem V_obj {b : Nat} (dg : decode M.2.1 pc = .ok (.invokespecial idx, 3)) (w1 : Cond.methodLink M.1.cls idx Lib.objectInit ∈ lw_good) (w2 : Cond.instanceMethod Lib.objectInit ∈ lw_good) (w3 : Cond.code Lib.objectInit ⟨#[0xb1]⟩ 1 none ∈ lw_good) (hd : 1 ≤ d) (hr : (st.map fun v => v.category).sum ≤ 8) (k : V G M d bc bs Q (pc + 3) ls st h) : V G M d bc bs Q pc ls (.ref b :: st) h := fun p e R s m args below meth c H locs cells slots la C hP hS hl h1 h2 =>
  W.objInit C.x C.b C.own (C.ts _ w1) (C.ts _ w2) (C.ts _ w3) rfl (hl.1.trans C.ml.symm) rfl dg (Nat.le_trans hd C.fr) (by have := C.lo; show 2 * 0 + _ + 12 ≤ _; omega) (k p e R s m args below meth c H locs cells slots la C hP hS hl h1 h2)
/-- an end that is known: the answer, the heap -/
def xE (v : Option Value) (h1 : xH) : xR → xH → Prop := fun r h => r = .inl v ∧ h = h1
/-- an end that is thrown: the cells are as they were -/
def xT (E : String) (h1 : xH) : xR → xH → Prop := fun r h => r = .inr E ∧ h.1 = h1.1
theorem VX_out {E : String} (ht : M.2.2.2.2 = []) (hq : Q (.inr E) h) : VX G M d bc bs Q pc ls E h := fun p e R s m args below meth c H locs cells slots la st q ce C hP hS hl h1 h2 hce hcv hcl =>
  vx_out (fun x hx => by rw [C.tab, ht] at hx; cases hx) C.locks hce hcv hcl (fun t ht hA => ⟨h, hq, by rw [ht]; exact hP, hS.F ht⟩) (fun z hz => hS.2.2 z hz) (by omega) (by omega)
end VR4
