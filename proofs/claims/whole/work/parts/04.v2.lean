/-! ===== V: fields, arrays, ends ===== -/
section VR2
variable {G : xG} {M : xM} {d bc bs : Nat} {Q : xR → xH → Prop} {pc : Nat} {ls : List (Option Value)} {st : List Value} {h : xH}
/-- a link to a private field of a nest mate -/
def FLN (own : String) (idx ci k : Nat) : Prop := ∃ (C : String) (T : u_T) (N : Nat) (host : String), xcl[ci]? = some (C, T, N) ∧ k < N ∧ (∀ w ∈ u_ws C T N, w ∈ lw_good) ∧ (own, idx, C, (T k).2.1, (T k).2.2.1, host) ∈ xNestF ∧ (T k).1 = C
theorem V_getN {idx ci k a : Nat} {F : Nat → Value} {v : Value} (dg : decode M.2.1 pc = .ok (.getfield idx, 3)) (fl : FLN M.1.cls idx ci k) (hh : h.1 a = some (.inr (ci, F))) (hv : F k = v) (kk : V G M d bc bs Q (pc + 3) ls (v :: st) h) : V G M d bc bs Q pc ls (.ref a :: st) h := by
  intro p e R s m args below meth c H locs cells slots la C hP hS hl h1 h2
  obtain ⟨CC, T, N, host, f1, f2, f3, f4, f5⟩ := fl
  obtain ⟨r, g1, cell, q1, q2, q3, q4⟩ := hP.1 _ _ hh
  have hr : r = (CC, T, N) := Option.some.inj (g1.symm.trans f1)
  subst hr
  obtain ⟨hS', hfc, kC, hkC, hkind⟩ := C.K.1 ci _ f1
  obtain ⟨cf, kf, fi, f, hi, hsl⟩ := hS' k f2
  refine va_Wgetf C.x C.b C.own (va_Nw.use rfl (C.w.2.2.1 _ f4)) (by rw [← f5]; exact hi) (u_facts hfc hkC (u_lays C.ts f3 f2) hi).1 q1 (by rw [q3]; exact fun h => by cases h) (v := v) ?_ rfl rfl dg (kk p e R s m args below meth c H locs cells slots la C hP hS hl h1 h2)
  rw [hsl, q4 k f2, ← hv]
/-- the fields' names of a class are apart, their types are these -/
def FT (ci : Nat) : Prop := ∀ (C : String) (T : u_T) (N : Nat), xcl[ci]? = some (C, T, N) → (∀ a, a < N → ∀ b, b < N → a ≠ b → (T a).2.1 ≠ (T b).2.1) ∧ ∀ k, k < N → ∃ ty, parseFieldDescriptor (T k).2.2.1 = some ty
/-- what may be put into a field: not final, its type, and the value is one of it -/
def FP (ci k : Nat) (v : Value) : Prop := ∀ (C : String) (T : u_T) (N : Nat), xcl[ci]? = some (C, T, N) → (T k).2.2.2 = false ∧ ∃ ty, parseFieldDescriptor (T k).2.2.1 = some ty ∧ narrow ty v = v ∧ fits ty v = true
theorem xAt.apart {CC : String} {T : u_T} {N ci : Nat} {s : State} {args : Array Value} (hts : ∀ w ∈ lw_good, w.before args s = true) (hK : va_K (gD G) xcl (xtys G) s) (ft : FT ci) (hc : xcl[ci]? = some (CC, T, N)) (hin : ∀ w ∈ u_ws CC T N, w ∈ lw_good) : ∀ x y, x < N → y < N → x ≠ y → ((gD G).2 ci) x ≠ ((gD G).2 ci) y := by
  intro x y hx hy hne
  obtain ⟨hS, -⟩ := hK.1 ci _ hc
  obtain ⟨_, _, _, fa, hia, ea⟩ := hS x hx
  obtain ⟨_, _, _, fb, hib, eb⟩ := hS y hy
  obtain ⟨n1, n2⟩ := ft _ _ _ hc
  obtain ⟨tx, htx⟩ := n2 x hx
  obtain ⟨ty, hty⟩ := n2 y hy
  rw [← ea, ← eb]
  refine u_apart (u_lays hts hin hx) (u_lays hts hin hy) hia hib ?_
  rw [(State.fieldFound?_type hia htx).1, (State.fieldFound?_type hib hty).1]
  exact n1 x hx y hy hne
theorem V_put {idx ci k a : Nat} {F : Nat → Value} {v : Value} (dg : decode M.2.1 pc = .ok (.putfield idx, 3)) (fl : FL M.1.cls idx ci k) (ft : FT ci) (fp : FP ci k v) (hh : h.1 a = some (.inr (ci, F))) (ha : gB G ≤ a) (kk : V G M d bc bs Q (pc + 3) ls st (xU h a (.inr (ci, updV F k v)))) : V G M d bc bs Q pc ls (v :: .ref a :: st) h := by
  intro p e R s m args below meth c H locs cells slots la C hP hS hl h1 h2
  obtain ⟨CC, T, N, f1, f2, f3, f4, f5⟩ := fl
  obtain ⟨hfin, ty, hd, hn, hfit⟩ := fp _ _ _ f1
  have hap := xAt.apart C.ts C.K ft f1 f3
  obtain ⟨r, g1, cell, q1, q2, q3, q4⟩ := hP.1 _ _ hh
  have hr : r = (CC, T, N) := Option.some.inj (g1.symm.trans f1)
  subst hr
  obtain ⟨hS', hfc, kC, hkC, hkind⟩ := C.K.1 ci _ f1
  obtain ⟨cf, kf, fi, f, hi, hsl⟩ := hS' k f2
  have hlay := C.ts _ (f3 _ (u_in_lay f2))
  unfold u_lay at hlay
  rw [if_neg (by rw [hfin]; decide)] at hlay
  have hst := (u_facts hfc hkC (u_lays C.ts f3 f2) hi).1
  have h6 := u_store hfc hkC hkind hlay hi hd hn hfit
  refine W.putK C.x C.b (f := f) ⟨C.own, C.ts _ f4, ⟨_, _, _, by rw [← f5]; exact hi⟩, hst⟩ (by rw [q2]; exact h6) q1 q3 (by rw [hsl]; exact k2_hasslot (q4 k f2)) rfl rfl dg fun H' e1 e2 e3 => ?_
  rw [hsl] at e1 ⊢
  exact kk p e R s m args below meth c H' _ cells slots la C (hP.set ⟨_, f1, ⟨_, e1, q2, q3, t_set q4 hap f2 v⟩⟩ e2 e3) (hS.put e2 e3 ha) hl h1 h2
/-- the same of a final field, in a constructor of its class -/
def FPF (ci k : Nat) (v : Value) : Prop := ∀ (C : String) (T : u_T) (N : Nat), xcl[ci]? = some (C, T, N) → (T k).2.2.2 = true ∧ ∃ ty, parseFieldDescriptor (T k).2.2.1 = some ty ∧ narrow ty v = v ∧ fits ty v = true
theorem V_putF {idx ci k a : Nat} {F : Nat → Value} {v : Value} (dg : decode M.2.1 pc = .ok (.putfield idx, 3)) (fl : FL M.1.cls idx ci k) (ft : FT ci) (fp : FPF ci k v) (hin2 : M.1.name = "<init>") (hown : ∀ C T N, xcl[ci]? = some (C, T, N) → C = M.1.cls) (hh : h.1 a = some (.inr (ci, F))) (ha : gB G ≤ a) (kk : V G M d bc bs Q (pc + 3) ls st (xU h a (.inr (ci, updV F k v)))) : V G M d bc bs Q pc ls (v :: .ref a :: st) h := by
  intro p e R s m args below meth c H locs cells slots la C hP hS hl h1 h2
  obtain ⟨CC, T, N, f1, f2, f3, f4, f5⟩ := fl
  obtain ⟨hfin, ty, hd, hn, hfit⟩ := fp _ _ _ f1
  have hap := xAt.apart C.ts C.K ft f1 f3
  obtain ⟨r, g1, cell, q1, q2, q3, q4⟩ := hP.1 _ _ hh
  have hr : r = (CC, T, N) := Option.some.inj (g1.symm.trans f1)
  subst hr
  have hCo := hown _ _ _ f1
  obtain ⟨hS', hfc, kC, hkC, hkind⟩ := C.K.1 ci _ f1
  obtain ⟨cf, kf, fi, f, hi, hsl⟩ := hS' k f2
  have hst := (u_facts hfc hkC (u_lays C.ts f3 f2) hi).1
  have hfs := u_fits hfc hkC hkind (u_lays C.ts f3 f2) hi hd hn hfit
  have hlay := C.ts _ (f3 _ (u_in_lay f2))
  unfold u_lay at hlay
  rw [if_pos hfin] at hlay
  have hcf : m.cls = cf := by
    obtain ⟨_, _, c', _, _, _, -, -, hf', -, -, -, hown2, -⟩ := Cond.laysFinal_spec hlay
    have e1 : c' = cf := by have := hi.symm.trans hf'; simp at this; exact this.1.symm
    rw [f5, hCo] at hown2
    rw [← e1]; exact Option.some.inj (C.own.symm.trans hown2)
  refine W.putFinK C.x C.b C.own (C.ts _ f4) (by rw [← f5]; exact hi) hst hcf (C.nm.trans hin2) (by rw [q2]; exact hfs) q1 q3 (by rw [hsl]; exact k2_hasslot (q4 k f2)) rfl rfl dg fun H' e1 e2 e3 => ?_
  rw [hsl] at e1 ⊢
  exact kk p e R s m args below meth c H' _ cells slots la C (hP.set ⟨_, f1, ⟨_, e1, q2, q3, t_set q4 hap f2 v⟩⟩ e2 e3) (hS.put e2 e3 ha) hl h1 h2
end VR2
