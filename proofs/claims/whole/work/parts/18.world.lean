/-! ===== WORLDS: cells side by side from an address on; what they hold is a row of ints each (references are told by a table) ===== -/
/-- which of the two shores -/
def shC (x : Int32) : Nat := if x = 0 then 44 else 4
/-- an object's fields: kind 0 an int of the row; 1 one of two shores; c + 2 the cell c -/
def objF (b : Nat) (ks : List Nat) (r : Nat → Int32) : Nat → Value := fun j => match ks.getD j 0 with
  | 0 => .int (r j)
  | 1 => .ref (b + shC (r j))
  | c + 2 => .ref (b + c)
/-- a table of cells: arrays (kind of elements, length; from 4 on: Strings from a place on), objects (class, kinds of fields) -/
abbrev xTb : Type := List ((Nat × Nat) ⊕ (Nat × List Nat))
def cellE (G : xG) (b : Nat) (e : (Nat × Nat) ⊕ (Nat × List Nat)) (r : Nat → Int32) : xC := match e with
  | .inl (t, n) => if t < 4 then .inl (t, n, .inl r) else .inl (4, n, .inr (.inr (.inr (.inr (fun i => some (gK G (t - 4 + i)))))))
  | .inr (ci, ks) => .inr (ci, objF b ks r)
def cellR (G : xG) (b : Nat) (tb : xTb) (k : Nat) (r : Nat → Int32) : Option xC := (tb[k]?).map fun e => cellE G b e r
def wH (G : xG) (b : Nat) (tb : xTb) (S : Nat → Nat → Int32) (h0 : xH) : xH := (fun a => if b ≤ a ∧ a < b + tb.length then cellR G b tb (a - b) (S (a - b)) else h0.1 a, h0.2)
def upR (S : Nat → Nat → Int32) (k : Nat) (r : Nat → Int32) : Nat → Nat → Int32 := fun k' => if k' = k then r else S k'
def up2 (S : Nat → Nat → Int32) (k j : Nat) (x : Int32) : Nat → Nat → Int32 := upR S k (upd (S k) j x)
theorem up2_same {S : Nat → Nat → Int32} {k j : Nat} {x : Int32} : up2 S k j x k j = x := by simp [up2, upR, upd]
theorem up2_row {S : Nat → Nat → Int32} {k j k' : Nat} {x : Int32} (h : k' ≠ k) : up2 S k j x k' = S k' := by simp [up2, upR, h]
theorem up2_col {S : Nat → Nat → Int32} {k j j' : Nat} {x : Int32} (h : j' ≠ j) : up2 S k j x k j' = S k j' := by simp [up2, upR, upd, h]
theorem upR_same {S : Nat → Nat → Int32} {k : Nat} {r : Nat → Int32} : upR S k r k = r := by simp [upR]
theorem upR_row {S : Nat → Nat → Int32} {k k' : Nat} {r : Nat → Int32} (h : k' ≠ k) : upR S k r k' = S k' := by simp [upR, h]
section WW
variable {G : xG} {b : Nat} {tb : xTb} {S : Nat → Nat → Int32} {h0 : xH}
theorem wH_at {k : Nat} {e : (Nat × Nat) ⊕ (Nat × List Nat)} (hk : tb[k]? = some e) : (wH G b tb S h0).1 (b + k) = some (cellE G b e (S k)) := by
  have hl := (List.getElem?_eq_some_iff.mp hk).1
  simp only [wH]
  rw [if_pos ⟨Nat.le_add_right b k, by omega⟩, Nat.add_sub_cancel_left, cellR, hk]
  rfl
theorem cellE_arr {t n : Nat} {r : Nat → Int32} (ht : t < 4) : cellE G b (.inl (t, n)) r = .inl (t, n, .inl r) := by simp only [cellE, if_pos ht]
theorem wH_arr {k t n : Nat} (hk : tb[k]? = some (.inl (t, n))) (ht : t < 4) : (wH G b tb S h0).1 (b + k) = some (.inl (t, n, .inl (S k))) := by
  rw [wH_at hk, cellE_arr ht]
theorem wH_off {a : Nat} (ha : ¬ (b ≤ a ∧ a < b + tb.length)) : (wH G b tb S h0).1 a = h0.1 a := by
  simp only [wH]
  rw [if_neg ha]
theorem wH_up {k : Nat} {e : (Nat × Nat) ⊕ (Nat × List Nat)} {r : Nat → Int32} {c : xC} (hk : tb[k]? = some e) (hc : cellE G b e r = c) : xU (wH G b tb S h0) (b + k) c = wH G b tb (upR S k r) h0 := by
  have hl := (List.getElem?_eq_some_iff.mp hk).1
  refine Prod.ext (funext fun a => ?_) rfl
  simp only [xU, wH]
  by_cases ha : a = b + k
  · subst ha
    rw [if_pos rfl, if_pos ⟨Nat.le_add_right b k, by omega⟩, Nat.add_sub_cancel_left, cellR, hk, upR, if_pos rfl]
    simp [hc]
  · rw [if_neg ha]
    by_cases hb : b ≤ a ∧ a < b + tb.length
    · rw [if_pos hb, if_pos hb, upR, if_neg (by omega)]
    · rw [if_neg hb, if_neg hb]
theorem objF_put {ks : List Nat} {r : Nat → Int32} {j : Nat} {x : Int32} (hj : ks.getD j 0 = 0) : objF b ks (upd r j x) = updV (objF b ks r) j (.int x) := by
  funext i
  by_cases hi : i = j
  · subst hi
    simp only [objF, updV, upd, hj, if_pos]
  · simp [objF, updV, upd, hi]
theorem objF_putW {ks : List Nat} {r : Nat → Int32} {j : Nat} {x : Int32} (hj : ks.getD j 0 = 1) : objF b ks (upd r j x) = updV (objF b ks r) j (.ref (b + shC x)) := by
  funext i
  by_cases hi : i = j
  · subst hi
    simp only [objF, updV, upd, hj, if_pos]
  · simp [objF, updV, upd, hi]
/-- two worlds side by side may change their places -/
theorem wH_comm {b2 : Nat} {tb2 : xTb} {S2 : Nat → Nat → Int32} (hd : b + tb.length ≤ b2 ∨ b2 + tb2.length ≤ b) : wH G b tb S (wH G b2 tb2 S2 h0) = wH G b2 tb2 S2 (wH G b tb S h0) := by
  refine Prod.ext (funext fun a => ?_) rfl
  simp only [wH]
  by_cases h1 : b ≤ a ∧ a < b + tb.length
  · rw [if_pos h1, if_neg (by omega), if_pos h1]
  · rw [if_neg h1, if_neg h1]
end WW
theorem fpI {ci k N : Nat} {C : String} {T : u_T} {x : Int32} (hc : xcl[ci]? = some (C, T, N)) (hf : (T k).2.2.2 = false) (hd : parseFieldDescriptor (T k).2.2.1 = some .int) : FP ci k (.int x) := fun C' T' N' h' => by
  cases (hc.symm.trans h')
  exact ⟨hf, _, hd, rfl, rfl⟩
theorem fpZ {ci k N : Nat} {C : String} {T : u_T} {x : Int32} (hc : xcl[ci]? = some (C, T, N)) (hf : (T k).2.2.2 = false) (hd : parseFieldDescriptor (T k).2.2.1 = some .boolean) (hx : x = 0 ∨ x = 1) : FP ci k (.int x) := fun C' T' N' h' => by
  cases (hc.symm.trans h')
  exact ⟨hf, _, hd, by rcases hx with rfl | rfl <;> rfl, by rcases hx with rfl | rfl <;> rfl⟩
theorem fpR {ci k N a : Nat} {C E : String} {T : u_T} (hc : xcl[ci]? = some (C, T, N)) (hf : (T k).2.2.2 = false) (hd : parseFieldDescriptor (T k).2.2.1 = some (.object E)) : FP ci k (.ref a) := fun C' T' N' h' => by
  cases (hc.symm.trans h')
  exact ⟨hf, _, hd, rfl, rfl⟩
section VW
variable {G : xG} {M M' : xM} {d d' bc bs bc' bs' mc ms : Nat} {Q Q' : xR → xH → Prop} {pc idx : Nat} {ls : List (Option Value)} {st : List Value} {b : Nat} {tb : xTb} {S : Nat → Nat → Int32} {h0 h h1 : xH}
theorem VW_getI {ci j k : Nat} {ks : List Nat} (dg : decode M.2.1 pc = .ok (.getfield idx, 3)) (fl : FL M.1.cls idx ci j) (hk : tb[k]? = some (.inr (ci, ks))) (hj : ks.getD j 0 = 0) (kk : V G M d bc bs Q (pc + 3) ls (.int (S k j) :: st) (wH G b tb S h0)) : V G M d bc bs Q pc ls (.ref (b + k) :: st) (wH G b tb S h0) :=
  V_get dg fl (wH_at hk) (by simp only [objF, hj]) kk
theorem VW_getR {ci j k c : Nat} {ks : List Nat} (dg : decode M.2.1 pc = .ok (.getfield idx, 3)) (fl : FL M.1.cls idx ci j) (hk : tb[k]? = some (.inr (ci, ks))) (hj : ks.getD j 0 = c + 2) (kk : V G M d bc bs Q (pc + 3) ls (.ref (b + c) :: st) (wH G b tb S h0)) : V G M d bc bs Q pc ls (.ref (b + k) :: st) (wH G b tb S h0) :=
  V_get dg fl (wH_at hk) (by simp only [objF, hj]) kk
theorem VW_getRN {ci j k c : Nat} {ks : List Nat} (dg : decode M.2.1 pc = .ok (.getfield idx, 3)) (fl : FLN M.1.cls idx ci j) (hk : tb[k]? = some (.inr (ci, ks))) (hj : ks.getD j 0 = c + 2) (kk : V G M d bc bs Q (pc + 3) ls (.ref (b + c) :: st) (wH G b tb S h0)) : V G M d bc bs Q pc ls (.ref (b + k) :: st) (wH G b tb S h0) :=
  V_getN dg fl (wH_at hk) (by simp only [objF, hj]) kk
theorem VW_getW {ci j k : Nat} {ks : List Nat} (dg : decode M.2.1 pc = .ok (.getfield idx, 3)) (fl : FL M.1.cls idx ci j) (hk : tb[k]? = some (.inr (ci, ks))) (hj : ks.getD j 0 = 1) (kk : V G M d bc bs Q (pc + 3) ls (.ref (b + shC (S k j)) :: st) (wH G b tb S h0)) : V G M d bc bs Q pc ls (.ref (b + k) :: st) (wH G b tb S h0) :=
  V_get dg fl (wH_at hk) (by simp only [objF, hj]) kk
theorem VW_getWs {ci j k s : Nat} {ks : List Nat} (dg : decode M.2.1 pc = .ok (.getfield idx, 3)) (fl : FL M.1.cls idx ci j) (hk : tb[k]? = some (.inr (ci, ks))) (hj : ks.getD j 0 = 1) (hs : shC (S k j) = s) (kk : V G M d bc bs Q (pc + 3) ls (.ref (b + s) :: st) (wH G b tb S h0)) : V G M d bc bs Q pc ls (.ref (b + k) :: st) (wH G b tb S h0) := by
  subst hs
  exact VW_getW dg fl hk hj kk
theorem VW_putI {ci j k : Nat} {ks : List Nat} {x : Int32} (dg : decode M.2.1 pc = .ok (.putfield idx, 3)) (fl : FL M.1.cls idx ci j) (ft : FT ci) (fp : FP ci j (.int x)) (hk : tb[k]? = some (.inr (ci, ks))) (hj : ks.getD j 0 = 0) (hb : gB G ≤ b) (kk : V G M d bc bs Q (pc + 3) ls st (wH G b tb (up2 S k j x) h0)) : V G M d bc bs Q pc ls (.int x :: .ref (b + k) :: st) (wH G b tb S h0) :=
  V_put dg fl ft fp (wH_at hk) (by omega) (by rw [wH_up hk (r := upd (S k) j x) (by simp only [cellE, objF_put hj])]; exact kk)
theorem VW_putW {ci j k : Nat} {ks : List Nat} {x : Int32} (dg : decode M.2.1 pc = .ok (.putfield idx, 3)) (fl : FL M.1.cls idx ci j) (ft : FT ci) (fp : FP ci j (.ref (b + shC x))) (hk : tb[k]? = some (.inr (ci, ks))) (hj : ks.getD j 0 = 1) (hb : gB G ≤ b) (kk : V G M d bc bs Q (pc + 3) ls st (wH G b tb (up2 S k j x) h0)) : V G M d bc bs Q pc ls (.ref (b + shC x) :: .ref (b + k) :: st) (wH G b tb S h0) :=
  V_put dg fl ft fp (wH_at hk) (by omega) (by rw [wH_up hk (r := upd (S k) j x) (by simp only [cellE, objF_putW hj])]; exact kk)
theorem VW_iald {k n : Nat} {i : Int32} (dg : decode M.2.1 pc = .ok (.iaload, 1)) (hk : tb[k]? = some (.inl (0, n))) (hin : vp_in i n) (kk : V G M d bc bs Q (pc + 1) ls (.int (S k i.toNatClampNeg) :: st) (wH G b tb S h0)) : V G M d bc bs Q pc ls (.int i :: .ref (b + k) :: st) (wH G b tb S h0) :=
  V_iald dg (wH_arr hk (by decide)) hin kk
theorem VW_bald {k n : Nat} {i : Int32} (dg : decode M.2.1 pc = .ok (.baload, 1)) (hk : tb[k]? = some (.inl (1, n))) (hin : vp_in i n) (kk : V G M d bc bs Q (pc + 1) ls (.int (S k i.toNatClampNeg) :: st) (wH G b tb S h0)) : V G M d bc bs Q pc ls (.int i :: .ref (b + k) :: st) (wH G b tb S h0) :=
  V_bald dg (wH_arr hk (by decide)) hin kk
theorem VW_zald {k n : Nat} {i : Int32} (dg : decode M.2.1 pc = .ok (.baload, 1)) (hk : tb[k]? = some (.inl (2, n))) (hin : vp_in i n) (kk : V G M d bc bs Q (pc + 1) ls (.int (S k i.toNatClampNeg) :: st) (wH G b tb S h0)) : V G M d bc bs Q pc ls (.int i :: .ref (b + k) :: st) (wH G b tb S h0) :=
  V_zald dg (wH_arr hk (by decide)) hin kk
theorem VW_iast {k n : Nat} {i x : Int32} (dg : decode M.2.1 pc = .ok (.iastore, 1)) (hk : tb[k]? = some (.inl (0, n))) (hb : gB G ≤ b) (hin : vp_in i n) (kk : V G M d bc bs Q (pc + 1) ls st (wH G b tb (up2 S k i.toNatClampNeg (x)) h0)) : V G M d bc bs Q pc ls (.int x :: .int i :: .ref (b + k) :: st) (wH G b tb S h0) :=
  V_iast dg (wH_arr hk (by decide)) (by omega) hin (by rw [wH_up hk (r := upd (S k) i.toNatClampNeg (x)) (cellE_arr (by decide))]; exact kk)
theorem VW_bast {k n : Nat} {i x : Int32} (dg : decode M.2.1 pc = .ok (.bastore, 1)) (hk : tb[k]? = some (.inl (1, n))) (hb : gB G ≤ b) (hin : vp_in i n) (kk : V G M d bc bs Q (pc + 1) ls st (wH G b tb (up2 S k i.toNatClampNeg (vp_nar .byte x)) h0)) : V G M d bc bs Q pc ls (.int x :: .int i :: .ref (b + k) :: st) (wH G b tb S h0) :=
  V_bast dg (wH_arr hk (by decide)) (by omega) hin (by rw [wH_up hk (r := upd (S k) i.toNatClampNeg (vp_nar .byte x)) (cellE_arr (by decide))]; exact kk)
theorem VW_zast {k n : Nat} {i x : Int32} (dg : decode M.2.1 pc = .ok (.bastore, 1)) (hk : tb[k]? = some (.inl (2, n))) (hb : gB G ≤ b) (hin : vp_in i n) (kk : V G M d bc bs Q (pc + 1) ls st (wH G b tb (up2 S k i.toNatClampNeg (vp_nar .boolean x)) h0)) : V G M d bc bs Q pc ls (.int x :: .int i :: .ref (b + k) :: st) (wH G b tb S h0) :=
  V_zast dg (wH_arr hk (by decide)) (by omega) hin (by rw [wH_up hk (r := upd (S k) i.toNatClampNeg (vp_nar .boolean x)) (cellE_arr (by decide))]; exact kk)
theorem VW_ialdN {k n j : Nat} {i : Int32} (dg : decode M.2.1 pc = .ok (.iaload, 1)) (hk : tb[k]? = some (.inl (0, n))) (hij : i = nI j) (hlt : j < n) (h31 : n ≤ 2 ^ 30) (kk : V G M d bc bs Q (pc + 1) ls (.int (S k j) :: st) (wH G b tb S h0)) : V G M d bc bs Q pc ls (.int i :: .ref (b + k) :: st) (wH G b tb S h0) := by
  subst hij
  refine VW_iald dg hk (vp_in_nI hlt (by omega)) ?_
  rw [nI_clamp (by omega)]
  exact kk
theorem VW_iastN {k n j : Nat} {i x : Int32} (dg : decode M.2.1 pc = .ok (.iastore, 1)) (hk : tb[k]? = some (.inl (0, n))) (hb : gB G ≤ b) (hij : i = nI j) (hlt : j < n) (h31 : n ≤ 2 ^ 30) (kk : V G M d bc bs Q (pc + 1) ls st (wH G b tb (up2 S k j x) h0)) : V G M d bc bs Q pc ls (.int x :: .int i :: .ref (b + k) :: st) (wH G b tb S h0) := by
  subst hij
  refine VW_iast dg hk hb (vp_in_nI hlt (by omega)) ?_
  rw [nI_clamp (by omega)]
  exact kk
theorem VW_alen {k n t : Nat} {v : Int32} (dg : decode M.2.1 pc = .ok (.arraylength, 1)) (hk : tb[k]? = some (.inl (t, n))) (ht : t < 4) (hv : Int32.ofNat n = v) (kk : V G M d bc bs Q (pc + 1) ls (.int v :: st) (wH G b tb S h0)) : V G M d bc bs Q pc ls (.ref (b + k) :: st) (wH G b tb S h0) :=
  V_alen (n := 0) dg (wH_arr hk ht) (by omega) hv kk
theorem VW_copy {k0 k n0 n1 : Nat} {sp dp n : Int32} (dg : decode M.2.1 pc = .ok (.invokestatic idx, 3)) (w1 : Cond.methodLink M.1.cls idx arraycopyName ∈ lw_good) (hk0 : tb[k0]? = some (.inl (0, n0))) (hk : tb[k]? = some (.inl (0, n1))) (hb : gB G ≤ b)
    (g1 : ¬ sp < 0) (g2 : ¬ dp < 0) (g3 : ¬ n < 0) (g4 : sp.toNatClampNeg + n.toNatClampNeg ≤ n0) (g5 : dp.toNatClampNeg + n.toNatClampNeg ≤ n1) (hd : 1 ≤ d) (hr : (st.map fun v => v.category).sum ≤ 8)
    (kk : V G M d bc bs Q (pc + 3) ls st (wH G b tb (upR S k (va_cpy (S k0) (S k) sp.toNatClampNeg dp.toNatClampNeg n.toNatClampNeg)) h0)) : V G M d bc bs Q pc ls (.int n :: .int dp :: .ref (b + k) :: .int sp :: .ref (b + k0) :: st) (wH G b tb S h0) :=
  V_copy dg w1 w_copy (wH_arr hk0 (by decide)) (wH_arr hk (by decide)) (by omega) g1 g2 g3 g4 g5 hd hr (by rw [wH_up hk (r := va_cpy (S k0) (S k) sp.toNatClampNeg dp.toNatClampNeg n.toNatClampNeg) (cellE_arr (by decide))]; exact kk)
theorem VW_copyN {k0 k n0 n1 s' d9 n' : Nat} {sp dp n : Int32} (dg : decode M.2.1 pc = .ok (.invokestatic idx, 3)) (w1 : Cond.methodLink M.1.cls idx arraycopyName ∈ lw_good) (hk0 : tb[k0]? = some (.inl (0, n0))) (hk : tb[k]? = some (.inl (0, n1))) (hb : gB G ≤ b)
    (e1 : sp = nI s') (e2 : dp = nI d9) (e3 : n = nI n') (g4 : s' + n' ≤ n0) (g5 : d9 + n' ≤ n1) (h30 : n0 ≤ 2 ^ 30) (h31 : n1 ≤ 2 ^ 30) (hd : 1 ≤ d) (hr : (st.map fun v => v.category).sum ≤ 8)
    (kk : V G M d bc bs Q (pc + 3) ls st (wH G b tb (upR S k (va_cpy (S k0) (S k) s' d9 n')) h0)) : V G M d bc bs Q pc ls (.int n :: .int dp :: .ref (b + k) :: .int sp :: .ref (b + k0) :: st) (wH G b tb S h0) := by
  subst e1; subst e2; subst e3
  have c1 : (nI s').toNatClampNeg = s' := nI_clamp (by omega)
  have c2 : (nI d9).toNatClampNeg = d9 := nI_clamp (by omega)
  have c3 : (nI n').toNatClampNeg = n' := nI_clamp (by omega)
  refine VW_copy dg w1 hk0 hk hb (nI_pos (by omega)) (nI_pos (by omega)) (nI_pos (by omega)) (by rw [c1, c3]; exact g4) (by rw [c2, c3]; exact g5) hd hr ?_
  rw [c1, c2, c3]
  exact kk
theorem VW_aald {k n t : Nat} {i : Int32} (dg : decode M.2.1 pc = .ok (.aaload, 1)) (hk : tb[k]? = some (.inl (t, n))) (ht : ¬ t < 4) (hin : vp_in i n) (kk : V G M d bc bs Q (pc + 1) ls (.ref (gK G (t - 4 + i.toNatClampNeg)) :: st) (wH G b tb S h0)) : V G M d bc bs Q pc ls (.int i :: .ref (b + k) :: st) (wH G b tb S h0) :=
  V_aald (f := fun i => some (gK G (t - 4 + i))) dg ((wH_at hk).trans (by simp only [cellE, if_neg ht])) hin kk
/-- a method's contract: from its entry on -/
abbrev VM (G : xG) (M : xM) (d bc bs : Nat) (As : List Value) (Q : xR → xH → Prop) (h : xH) : Prop := V G M d bc bs Q 0 (xEnt As M.2.2.1) [] h
theorem VM_start {As : List Value} {ls : List (Option Value)} (hl : xEnt As M.2.2.1 = ls) (k : V G M d bc bs Q 0 ls [] h) : VM G M d bc bs As Q h := by
  show V G M d bc bs Q 0 (xEnt As M.2.2.1) [] h
  rw [hl]
  exact k
theorem V_S0i {r : Int32} (dg : decode M.2.1 pc = .ok (.invokestatic idx, 3)) (cs : CS M.1.cls idx M' 0) (hV : VM G M' d' 0 0 [] (xE (some (.int r)) h1) h) (hlen : (lg_sl []).length ≤ M'.2.2.1) (hd : d' + 1 ≤ d) (hr : (st.map fun v => v.category).sum ≤ 8) (k : V G M d bc bs Q (pc + 3) ls (.int r :: st) h1) : V G M d bc bs Q pc ls (st) h :=
  V_callS dg cs hV rfl hlen rfl hd (bc' := bc) (bs' := bs) (by omega) (by omega) hr (fun v h' hq => by cases hq.1; cases hq.2; exact k) (fun E h' hq => by cases hq.1)
theorem V_S0v  (dg : decode M.2.1 pc = .ok (.invokestatic idx, 3)) (cs : CS M.1.cls idx M' 0) (hV : VM G M' d' 0 0 [] (xE none h1) h) (hlen : (lg_sl []).length ≤ M'.2.2.1) (hd : d' + 1 ≤ d) (hr : (st.map fun v => v.category).sum ≤ 8) (k : V G M d bc bs Q (pc + 3) ls st h1) : V G M d bc bs Q pc ls (st) h :=
  V_callS dg cs hV rfl hlen rfl hd (bc' := bc) (bs' := bs) (by omega) (by omega) hr (fun v h' hq => by cases hq.1; cases hq.2; exact k) (fun E h' hq => by cases hq.1)
theorem V_S1i {v1 : Value} {r : Int32} (dg : decode M.2.1 pc = .ok (.invokestatic idx, 3)) (cs : CS M.1.cls idx M' 1) (hV : VM G M' d' 0 0 [v1] (xE (some (.int r)) h1) h) (hlen : (lg_sl [v1]).length ≤ M'.2.2.1) (hd : d' + 1 ≤ d) (hr : (st.map fun v => v.category).sum ≤ 8) (k : V G M d bc bs Q (pc + 3) ls (.int r :: st) h1) : V G M d bc bs Q pc ls (v1 :: st) h :=
  V_callS dg cs hV rfl hlen rfl hd (bc' := bc) (bs' := bs) (by omega) (by omega) hr (fun v h' hq => by cases hq.1; cases hq.2; exact k) (fun E h' hq => by cases hq.1)
theorem V_S1v {v1 : Value}  (dg : decode M.2.1 pc = .ok (.invokestatic idx, 3)) (cs : CS M.1.cls idx M' 1) (hV : VM G M' d' 0 0 [v1] (xE none h1) h) (hlen : (lg_sl [v1]).length ≤ M'.2.2.1) (hd : d' + 1 ≤ d) (hr : (st.map fun v => v.category).sum ≤ 8) (k : V G M d bc bs Q (pc + 3) ls st h1) : V G M d bc bs Q pc ls (v1 :: st) h :=
  V_callS dg cs hV rfl hlen rfl hd (bc' := bc) (bs' := bs) (by omega) (by omega) hr (fun v h' hq => by cases hq.1; cases hq.2; exact k) (fun E h' hq => by cases hq.1)
theorem V_S2i {v1 v2 : Value} {r : Int32} (dg : decode M.2.1 pc = .ok (.invokestatic idx, 3)) (cs : CS M.1.cls idx M' 2) (hV : VM G M' d' 0 0 [v1, v2] (xE (some (.int r)) h1) h) (hlen : (lg_sl [v1, v2]).length ≤ M'.2.2.1) (hd : d' + 1 ≤ d) (hr : (st.map fun v => v.category).sum ≤ 8) (k : V G M d bc bs Q (pc + 3) ls (.int r :: st) h1) : V G M d bc bs Q pc ls (v2 :: v1 :: st) h :=
  V_callS dg cs hV rfl hlen rfl hd (bc' := bc) (bs' := bs) (by omega) (by omega) hr (fun v h' hq => by cases hq.1; cases hq.2; exact k) (fun E h' hq => by cases hq.1)
theorem V_S2v {v1 v2 : Value}  (dg : decode M.2.1 pc = .ok (.invokestatic idx, 3)) (cs : CS M.1.cls idx M' 2) (hV : VM G M' d' 0 0 [v1, v2] (xE none h1) h) (hlen : (lg_sl [v1, v2]).length ≤ M'.2.2.1) (hd : d' + 1 ≤ d) (hr : (st.map fun v => v.category).sum ≤ 8) (k : V G M d bc bs Q (pc + 3) ls st h1) : V G M d bc bs Q pc ls (v2 :: v1 :: st) h :=
  V_callS dg cs hV rfl hlen rfl hd (bc' := bc) (bs' := bs) (by omega) (by omega) hr (fun v h' hq => by cases hq.1; cases hq.2; exact k) (fun E h' hq => by cases hq.1)
theorem V_S3i {v1 v2 v3 : Value} {r : Int32} (dg : decode M.2.1 pc = .ok (.invokestatic idx, 3)) (cs : CS M.1.cls idx M' 3) (hV : VM G M' d' 0 0 [v1, v2, v3] (xE (some (.int r)) h1) h) (hlen : (lg_sl [v1, v2, v3]).length ≤ M'.2.2.1) (hd : d' + 1 ≤ d) (hr : (st.map fun v => v.category).sum ≤ 8) (k : V G M d bc bs Q (pc + 3) ls (.int r :: st) h1) : V G M d bc bs Q pc ls (v3 :: v2 :: v1 :: st) h :=
  V_callS dg cs hV rfl hlen rfl hd (bc' := bc) (bs' := bs) (by omega) (by omega) hr (fun v h' hq => by cases hq.1; cases hq.2; exact k) (fun E h' hq => by cases hq.1)
theorem V_S3v {v1 v2 v3 : Value}  (dg : decode M.2.1 pc = .ok (.invokestatic idx, 3)) (cs : CS M.1.cls idx M' 3) (hV : VM G M' d' 0 0 [v1, v2, v3] (xE none h1) h) (hlen : (lg_sl [v1, v2, v3]).length ≤ M'.2.2.1) (hd : d' + 1 ≤ d) (hr : (st.map fun v => v.category).sum ≤ 8) (k : V G M d bc bs Q (pc + 3) ls st h1) : V G M d bc bs Q pc ls (v3 :: v2 :: v1 :: st) h :=
  V_callS dg cs hV rfl hlen rfl hd (bc' := bc) (bs' := bs) (by omega) (by omega) hr (fun v h' hq => by cases hq.1; cases hq.2; exact k) (fun E h' hq => by cases hq.1)
theorem V_S4i {v1 v2 v3 v4 : Value} {r : Int32} (dg : decode M.2.1 pc = .ok (.invokestatic idx, 3)) (cs : CS M.1.cls idx M' 4) (hV : VM G M' d' 0 0 [v1, v2, v3, v4] (xE (some (.int r)) h1) h) (hlen : (lg_sl [v1, v2, v3, v4]).length ≤ M'.2.2.1) (hd : d' + 1 ≤ d) (hr : (st.map fun v => v.category).sum ≤ 8) (k : V G M d bc bs Q (pc + 3) ls (.int r :: st) h1) : V G M d bc bs Q pc ls (v4 :: v3 :: v2 :: v1 :: st) h :=
  V_callS dg cs hV rfl hlen rfl hd (bc' := bc) (bs' := bs) (by omega) (by omega) hr (fun v h' hq => by cases hq.1; cases hq.2; exact k) (fun E h' hq => by cases hq.1)
theorem V_S4v {v1 v2 v3 v4 : Value}  (dg : decode M.2.1 pc = .ok (.invokestatic idx, 3)) (cs : CS M.1.cls idx M' 4) (hV : VM G M' d' 0 0 [v1, v2, v3, v4] (xE none h1) h) (hlen : (lg_sl [v1, v2, v3, v4]).length ≤ M'.2.2.1) (hd : d' + 1 ≤ d) (hr : (st.map fun v => v.category).sum ≤ 8) (k : V G M d bc bs Q (pc + 3) ls st h1) : V G M d bc bs Q pc ls (v4 :: v3 :: v2 :: v1 :: st) h :=
  V_callS dg cs hV rfl hlen rfl hd (bc' := bc) (bs' := bs) (by omega) (by omega) hr (fun v h' hq => by cases hq.1; cases hq.2; exact k) (fun E h' hq => by cases hq.1)
theorem V_S5i {v1 v2 v3 v4 v5 : Value} {r : Int32} (dg : decode M.2.1 pc = .ok (.invokestatic idx, 3)) (cs : CS M.1.cls idx M' 5) (hV : VM G M' d' 0 0 [v1, v2, v3, v4, v5] (xE (some (.int r)) h1) h) (hlen : (lg_sl [v1, v2, v3, v4, v5]).length ≤ M'.2.2.1) (hd : d' + 1 ≤ d) (hr : (st.map fun v => v.category).sum ≤ 8) (k : V G M d bc bs Q (pc + 3) ls (.int r :: st) h1) : V G M d bc bs Q pc ls (v5 :: v4 :: v3 :: v2 :: v1 :: st) h :=
  V_callS dg cs hV rfl hlen rfl hd (bc' := bc) (bs' := bs) (by omega) (by omega) hr (fun v h' hq => by cases hq.1; cases hq.2; exact k) (fun E h' hq => by cases hq.1)
theorem V_S5v {v1 v2 v3 v4 v5 : Value}  (dg : decode M.2.1 pc = .ok (.invokestatic idx, 3)) (cs : CS M.1.cls idx M' 5) (hV : VM G M' d' 0 0 [v1, v2, v3, v4, v5] (xE none h1) h) (hlen : (lg_sl [v1, v2, v3, v4, v5]).length ≤ M'.2.2.1) (hd : d' + 1 ≤ d) (hr : (st.map fun v => v.category).sum ≤ 8) (k : V G M d bc bs Q (pc + 3) ls st h1) : V G M d bc bs Q pc ls (v5 :: v4 :: v3 :: v2 :: v1 :: st) h :=
  V_callS dg cs hV rfl hlen rfl hd (bc' := bc) (bs' := bs) (by omega) (by omega) hr (fun v h' hq => by cases hq.1; cases hq.2; exact k) (fun E h' hq => by cases hq.1)
theorem V_SN0i {r : Int32} (dg : decode M.2.1 pc = .ok (.invokestatic idx, 3)) (cs : CSN M.1.cls idx M' 0) (hV : VM G M' d' 0 0 [] (xE (some (.int r)) h1) h) (hlen : (lg_sl []).length ≤ M'.2.2.1) (hd : d' + 1 ≤ d) (hr : (st.map fun v => v.category).sum ≤ 8) (k : V G M d bc bs Q (pc + 3) ls (.int r :: st) h1) : V G M d bc bs Q pc ls (st) h :=
  V_callSN dg cs hV rfl hlen rfl hd (bc' := bc) (bs' := bs) (by omega) (by omega) hr (fun v h' hq => by cases hq.1; cases hq.2; exact k) (fun E h' hq => by cases hq.1)
theorem V_SN0v  (dg : decode M.2.1 pc = .ok (.invokestatic idx, 3)) (cs : CSN M.1.cls idx M' 0) (hV : VM G M' d' 0 0 [] (xE none h1) h) (hlen : (lg_sl []).length ≤ M'.2.2.1) (hd : d' + 1 ≤ d) (hr : (st.map fun v => v.category).sum ≤ 8) (k : V G M d bc bs Q (pc + 3) ls st h1) : V G M d bc bs Q pc ls (st) h :=
  V_callSN dg cs hV rfl hlen rfl hd (bc' := bc) (bs' := bs) (by omega) (by omega) hr (fun v h' hq => by cases hq.1; cases hq.2; exact k) (fun E h' hq => by cases hq.1)
theorem V_SN1i {v1 : Value} {r : Int32} (dg : decode M.2.1 pc = .ok (.invokestatic idx, 3)) (cs : CSN M.1.cls idx M' 1) (hV : VM G M' d' 0 0 [v1] (xE (some (.int r)) h1) h) (hlen : (lg_sl [v1]).length ≤ M'.2.2.1) (hd : d' + 1 ≤ d) (hr : (st.map fun v => v.category).sum ≤ 8) (k : V G M d bc bs Q (pc + 3) ls (.int r :: st) h1) : V G M d bc bs Q pc ls (v1 :: st) h :=
  V_callSN dg cs hV rfl hlen rfl hd (bc' := bc) (bs' := bs) (by omega) (by omega) hr (fun v h' hq => by cases hq.1; cases hq.2; exact k) (fun E h' hq => by cases hq.1)
theorem V_SN1v {v1 : Value}  (dg : decode M.2.1 pc = .ok (.invokestatic idx, 3)) (cs : CSN M.1.cls idx M' 1) (hV : VM G M' d' 0 0 [v1] (xE none h1) h) (hlen : (lg_sl [v1]).length ≤ M'.2.2.1) (hd : d' + 1 ≤ d) (hr : (st.map fun v => v.category).sum ≤ 8) (k : V G M d bc bs Q (pc + 3) ls st h1) : V G M d bc bs Q pc ls (v1 :: st) h :=
  V_callSN dg cs hV rfl hlen rfl hd (bc' := bc) (bs' := bs) (by omega) (by omega) hr (fun v h' hq => by cases hq.1; cases hq.2; exact k) (fun E h' hq => by cases hq.1)
theorem V_SN2i {v1 v2 : Value} {r : Int32} (dg : decode M.2.1 pc = .ok (.invokestatic idx, 3)) (cs : CSN M.1.cls idx M' 2) (hV : VM G M' d' 0 0 [v1, v2] (xE (some (.int r)) h1) h) (hlen : (lg_sl [v1, v2]).length ≤ M'.2.2.1) (hd : d' + 1 ≤ d) (hr : (st.map fun v => v.category).sum ≤ 8) (k : V G M d bc bs Q (pc + 3) ls (.int r :: st) h1) : V G M d bc bs Q pc ls (v2 :: v1 :: st) h :=
  V_callSN dg cs hV rfl hlen rfl hd (bc' := bc) (bs' := bs) (by omega) (by omega) hr (fun v h' hq => by cases hq.1; cases hq.2; exact k) (fun E h' hq => by cases hq.1)
theorem V_SN2v {v1 v2 : Value}  (dg : decode M.2.1 pc = .ok (.invokestatic idx, 3)) (cs : CSN M.1.cls idx M' 2) (hV : VM G M' d' 0 0 [v1, v2] (xE none h1) h) (hlen : (lg_sl [v1, v2]).length ≤ M'.2.2.1) (hd : d' + 1 ≤ d) (hr : (st.map fun v => v.category).sum ≤ 8) (k : V G M d bc bs Q (pc + 3) ls st h1) : V G M d bc bs Q pc ls (v2 :: v1 :: st) h :=
  V_callSN dg cs hV rfl hlen rfl hd (bc' := bc) (bs' := bs) (by omega) (by omega) hr (fun v h' hq => by cases hq.1; cases hq.2; exact k) (fun E h' hq => by cases hq.1)
theorem V_SN3i {v1 v2 v3 : Value} {r : Int32} (dg : decode M.2.1 pc = .ok (.invokestatic idx, 3)) (cs : CSN M.1.cls idx M' 3) (hV : VM G M' d' 0 0 [v1, v2, v3] (xE (some (.int r)) h1) h) (hlen : (lg_sl [v1, v2, v3]).length ≤ M'.2.2.1) (hd : d' + 1 ≤ d) (hr : (st.map fun v => v.category).sum ≤ 8) (k : V G M d bc bs Q (pc + 3) ls (.int r :: st) h1) : V G M d bc bs Q pc ls (v3 :: v2 :: v1 :: st) h :=
  V_callSN dg cs hV rfl hlen rfl hd (bc' := bc) (bs' := bs) (by omega) (by omega) hr (fun v h' hq => by cases hq.1; cases hq.2; exact k) (fun E h' hq => by cases hq.1)
theorem V_SN3v {v1 v2 v3 : Value}  (dg : decode M.2.1 pc = .ok (.invokestatic idx, 3)) (cs : CSN M.1.cls idx M' 3) (hV : VM G M' d' 0 0 [v1, v2, v3] (xE none h1) h) (hlen : (lg_sl [v1, v2, v3]).length ≤ M'.2.2.1) (hd : d' + 1 ≤ d) (hr : (st.map fun v => v.category).sum ≤ 8) (k : V G M d bc bs Q (pc + 3) ls st h1) : V G M d bc bs Q pc ls (v3 :: v2 :: v1 :: st) h :=
  V_callSN dg cs hV rfl hlen rfl hd (bc' := bc) (bs' := bs) (by omega) (by omega) hr (fun v h' hq => by cases hq.1; cases hq.2; exact k) (fun E h' hq => by cases hq.1)
theorem V_SN4i {v1 v2 v3 v4 : Value} {r : Int32} (dg : decode M.2.1 pc = .ok (.invokestatic idx, 3)) (cs : CSN M.1.cls idx M' 4) (hV : VM G M' d' 0 0 [v1, v2, v3, v4] (xE (some (.int r)) h1) h) (hlen : (lg_sl [v1, v2, v3, v4]).length ≤ M'.2.2.1) (hd : d' + 1 ≤ d) (hr : (st.map fun v => v.category).sum ≤ 8) (k : V G M d bc bs Q (pc + 3) ls (.int r :: st) h1) : V G M d bc bs Q pc ls (v4 :: v3 :: v2 :: v1 :: st) h :=
  V_callSN dg cs hV rfl hlen rfl hd (bc' := bc) (bs' := bs) (by omega) (by omega) hr (fun v h' hq => by cases hq.1; cases hq.2; exact k) (fun E h' hq => by cases hq.1)
theorem V_SN4v {v1 v2 v3 v4 : Value}  (dg : decode M.2.1 pc = .ok (.invokestatic idx, 3)) (cs : CSN M.1.cls idx M' 4) (hV : VM G M' d' 0 0 [v1, v2, v3, v4] (xE none h1) h) (hlen : (lg_sl [v1, v2, v3, v4]).length ≤ M'.2.2.1) (hd : d' + 1 ≤ d) (hr : (st.map fun v => v.category).sum ≤ 8) (k : V G M d bc bs Q (pc + 3) ls st h1) : V G M d bc bs Q pc ls (v4 :: v3 :: v2 :: v1 :: st) h :=
  V_callSN dg cs hV rfl hlen rfl hd (bc' := bc) (bs' := bs) (by omega) (by omega) hr (fun v h' hq => by cases hq.1; cases hq.2; exact k) (fun E h' hq => by cases hq.1)
theorem V_SN5i {v1 v2 v3 v4 v5 : Value} {r : Int32} (dg : decode M.2.1 pc = .ok (.invokestatic idx, 3)) (cs : CSN M.1.cls idx M' 5) (hV : VM G M' d' 0 0 [v1, v2, v3, v4, v5] (xE (some (.int r)) h1) h) (hlen : (lg_sl [v1, v2, v3, v4, v5]).length ≤ M'.2.2.1) (hd : d' + 1 ≤ d) (hr : (st.map fun v => v.category).sum ≤ 8) (k : V G M d bc bs Q (pc + 3) ls (.int r :: st) h1) : V G M d bc bs Q pc ls (v5 :: v4 :: v3 :: v2 :: v1 :: st) h :=
  V_callSN dg cs hV rfl hlen rfl hd (bc' := bc) (bs' := bs) (by omega) (by omega) hr (fun v h' hq => by cases hq.1; cases hq.2; exact k) (fun E h' hq => by cases hq.1)
theorem V_SN5v {v1 v2 v3 v4 v5 : Value}  (dg : decode M.2.1 pc = .ok (.invokestatic idx, 3)) (cs : CSN M.1.cls idx M' 5) (hV : VM G M' d' 0 0 [v1, v2, v3, v4, v5] (xE none h1) h) (hlen : (lg_sl [v1, v2, v3, v4, v5]).length ≤ M'.2.2.1) (hd : d' + 1 ≤ d) (hr : (st.map fun v => v.category).sum ≤ 8) (k : V G M d bc bs Q (pc + 3) ls st h1) : V G M d bc bs Q pc ls (v5 :: v4 :: v3 :: v2 :: v1 :: st) h :=
  V_callSN dg cs hV rfl hlen rfl hd (bc' := bc) (bs' := bs) (by omega) (by omega) hr (fun v h' hq => by cases hq.1; cases hq.2; exact k) (fun E h' hq => by cases hq.1)
theorem V_SH0i {r : Int32} (dg : decode M.2.1 pc = .ok (.invokestatic idx, 3)) (cs : CSH M.1.cls idx M' 0) (hV : VM G M' d' 0 0 [] (xE (some (.int r)) h1) h) (hlen : (lg_sl []).length ≤ M'.2.2.1) (hd : d' + 1 ≤ d) (hr : (st.map fun v => v.category).sum ≤ 8) (k : V G M d bc bs Q (pc + 3) ls (.int r :: st) h1) : V G M d bc bs Q pc ls (st) h :=
  V_callSH dg cs hV rfl hlen rfl hd (bc' := bc) (bs' := bs) (by omega) (by omega) hr (fun v h' hq => by cases hq.1; cases hq.2; exact k) (fun E h' hq => by cases hq.1)
theorem V_SH0v  (dg : decode M.2.1 pc = .ok (.invokestatic idx, 3)) (cs : CSH M.1.cls idx M' 0) (hV : VM G M' d' 0 0 [] (xE none h1) h) (hlen : (lg_sl []).length ≤ M'.2.2.1) (hd : d' + 1 ≤ d) (hr : (st.map fun v => v.category).sum ≤ 8) (k : V G M d bc bs Q (pc + 3) ls st h1) : V G M d bc bs Q pc ls (st) h :=
  V_callSH dg cs hV rfl hlen rfl hd (bc' := bc) (bs' := bs) (by omega) (by omega) hr (fun v h' hq => by cases hq.1; cases hq.2; exact k) (fun E h' hq => by cases hq.1)
theorem V_SH1i {v1 : Value} {r : Int32} (dg : decode M.2.1 pc = .ok (.invokestatic idx, 3)) (cs : CSH M.1.cls idx M' 1) (hV : VM G M' d' 0 0 [v1] (xE (some (.int r)) h1) h) (hlen : (lg_sl [v1]).length ≤ M'.2.2.1) (hd : d' + 1 ≤ d) (hr : (st.map fun v => v.category).sum ≤ 8) (k : V G M d bc bs Q (pc + 3) ls (.int r :: st) h1) : V G M d bc bs Q pc ls (v1 :: st) h :=
  V_callSH dg cs hV rfl hlen rfl hd (bc' := bc) (bs' := bs) (by omega) (by omega) hr (fun v h' hq => by cases hq.1; cases hq.2; exact k) (fun E h' hq => by cases hq.1)
theorem V_SH1v {v1 : Value}  (dg : decode M.2.1 pc = .ok (.invokestatic idx, 3)) (cs : CSH M.1.cls idx M' 1) (hV : VM G M' d' 0 0 [v1] (xE none h1) h) (hlen : (lg_sl [v1]).length ≤ M'.2.2.1) (hd : d' + 1 ≤ d) (hr : (st.map fun v => v.category).sum ≤ 8) (k : V G M d bc bs Q (pc + 3) ls st h1) : V G M d bc bs Q pc ls (v1 :: st) h :=
  V_callSH dg cs hV rfl hlen rfl hd (bc' := bc) (bs' := bs) (by omega) (by omega) hr (fun v h' hq => by cases hq.1; cases hq.2; exact k) (fun E h' hq => by cases hq.1)
theorem V_SH2i {v1 v2 : Value} {r : Int32} (dg : decode M.2.1 pc = .ok (.invokestatic idx, 3)) (cs : CSH M.1.cls idx M' 2) (hV : VM G M' d' 0 0 [v1, v2] (xE (some (.int r)) h1) h) (hlen : (lg_sl [v1, v2]).length ≤ M'.2.2.1) (hd : d' + 1 ≤ d) (hr : (st.map fun v => v.category).sum ≤ 8) (k : V G M d bc bs Q (pc + 3) ls (.int r :: st) h1) : V G M d bc bs Q pc ls (v2 :: v1 :: st) h :=
  V_callSH dg cs hV rfl hlen rfl hd (bc' := bc) (bs' := bs) (by omega) (by omega) hr (fun v h' hq => by cases hq.1; cases hq.2; exact k) (fun E h' hq => by cases hq.1)
theorem V_SH2v {v1 v2 : Value}  (dg : decode M.2.1 pc = .ok (.invokestatic idx, 3)) (cs : CSH M.1.cls idx M' 2) (hV : VM G M' d' 0 0 [v1, v2] (xE none h1) h) (hlen : (lg_sl [v1, v2]).length ≤ M'.2.2.1) (hd : d' + 1 ≤ d) (hr : (st.map fun v => v.category).sum ≤ 8) (k : V G M d bc bs Q (pc + 3) ls st h1) : V G M d bc bs Q pc ls (v2 :: v1 :: st) h :=
  V_callSH dg cs hV rfl hlen rfl hd (bc' := bc) (bs' := bs) (by omega) (by omega) hr (fun v h' hq => by cases hq.1; cases hq.2; exact k) (fun E h' hq => by cases hq.1)
theorem V_SH3i {v1 v2 v3 : Value} {r : Int32} (dg : decode M.2.1 pc = .ok (.invokestatic idx, 3)) (cs : CSH M.1.cls idx M' 3) (hV : VM G M' d' 0 0 [v1, v2, v3] (xE (some (.int r)) h1) h) (hlen : (lg_sl [v1, v2, v3]).length ≤ M'.2.2.1) (hd : d' + 1 ≤ d) (hr : (st.map fun v => v.category).sum ≤ 8) (k : V G M d bc bs Q (pc + 3) ls (.int r :: st) h1) : V G M d bc bs Q pc ls (v3 :: v2 :: v1 :: st) h :=
  V_callSH dg cs hV rfl hlen rfl hd (bc' := bc) (bs' := bs) (by omega) (by omega) hr (fun v h' hq => by cases hq.1; cases hq.2; exact k) (fun E h' hq => by cases hq.1)
theorem V_SH3v {v1 v2 v3 : Value}  (dg : decode M.2.1 pc = .ok (.invokestatic idx, 3)) (cs : CSH M.1.cls idx M' 3) (hV : VM G M' d' 0 0 [v1, v2, v3] (xE none h1) h) (hlen : (lg_sl [v1, v2, v3]).length ≤ M'.2.2.1) (hd : d' + 1 ≤ d) (hr : (st.map fun v => v.category).sum ≤ 8) (k : V G M d bc bs Q (pc + 3) ls st h1) : V G M d bc bs Q pc ls (v3 :: v2 :: v1 :: st) h :=
  V_callSH dg cs hV rfl hlen rfl hd (bc' := bc) (bs' := bs) (by omega) (by omega) hr (fun v h' hq => by cases hq.1; cases hq.2; exact k) (fun E h' hq => by cases hq.1)
theorem V_SH4i {v1 v2 v3 v4 : Value} {r : Int32} (dg : decode M.2.1 pc = .ok (.invokestatic idx, 3)) (cs : CSH M.1.cls idx M' 4) (hV : VM G M' d' 0 0 [v1, v2, v3, v4] (xE (some (.int r)) h1) h) (hlen : (lg_sl [v1, v2, v3, v4]).length ≤ M'.2.2.1) (hd : d' + 1 ≤ d) (hr : (st.map fun v => v.category).sum ≤ 8) (k : V G M d bc bs Q (pc + 3) ls (.int r :: st) h1) : V G M d bc bs Q pc ls (v4 :: v3 :: v2 :: v1 :: st) h :=
  V_callSH dg cs hV rfl hlen rfl hd (bc' := bc) (bs' := bs) (by omega) (by omega) hr (fun v h' hq => by cases hq.1; cases hq.2; exact k) (fun E h' hq => by cases hq.1)
theorem V_SH4v {v1 v2 v3 v4 : Value}  (dg : decode M.2.1 pc = .ok (.invokestatic idx, 3)) (cs : CSH M.1.cls idx M' 4) (hV : VM G M' d' 0 0 [v1, v2, v3, v4] (xE none h1) h) (hlen : (lg_sl [v1, v2, v3, v4]).length ≤ M'.2.2.1) (hd : d' + 1 ≤ d) (hr : (st.map fun v => v.category).sum ≤ 8) (k : V G M d bc bs Q (pc + 3) ls st h1) : V G M d bc bs Q pc ls (v4 :: v3 :: v2 :: v1 :: st) h :=
  V_callSH dg cs hV rfl hlen rfl hd (bc' := bc) (bs' := bs) (by omega) (by omega) hr (fun v h' hq => by cases hq.1; cases hq.2; exact k) (fun E h' hq => by cases hq.1)
theorem V_SH5i {v1 v2 v3 v4 v5 : Value} {r : Int32} (dg : decode M.2.1 pc = .ok (.invokestatic idx, 3)) (cs : CSH M.1.cls idx M' 5) (hV : VM G M' d' 0 0 [v1, v2, v3, v4, v5] (xE (some (.int r)) h1) h) (hlen : (lg_sl [v1, v2, v3, v4, v5]).length ≤ M'.2.2.1) (hd : d' + 1 ≤ d) (hr : (st.map fun v => v.category).sum ≤ 8) (k : V G M d bc bs Q (pc + 3) ls (.int r :: st) h1) : V G M d bc bs Q pc ls (v5 :: v4 :: v3 :: v2 :: v1 :: st) h :=
  V_callSH dg cs hV rfl hlen rfl hd (bc' := bc) (bs' := bs) (by omega) (by omega) hr (fun v h' hq => by cases hq.1; cases hq.2; exact k) (fun E h' hq => by cases hq.1)
theorem V_SH5v {v1 v2 v3 v4 v5 : Value}  (dg : decode M.2.1 pc = .ok (.invokestatic idx, 3)) (cs : CSH M.1.cls idx M' 5) (hV : VM G M' d' 0 0 [v1, v2, v3, v4, v5] (xE none h1) h) (hlen : (lg_sl [v1, v2, v3, v4, v5]).length ≤ M'.2.2.1) (hd : d' + 1 ≤ d) (hr : (st.map fun v => v.category).sum ≤ 8) (k : V G M d bc bs Q (pc + 3) ls st h1) : V G M d bc bs Q pc ls (v5 :: v4 :: v3 :: v2 :: v1 :: st) h :=
  V_callSH dg cs hV rfl hlen rfl hd (bc' := bc) (bs' := bs) (by omega) (by omega) hr (fun v h' hq => by cases hq.1; cases hq.2; exact k) (fun E h' hq => by cases hq.1)
theorem V_V0i {ci kc : Nat} {ks : List Nat} {r : Int32} (dg : decode M.2.1 pc = .ok (.invokevirtual idx, 3)) (cs : CV M.1.cls idx M' 0 ci) (hk : tb[kc]? = some (.inr (ci, ks))) (hV : VM G M' d' 0 0 [.ref (b + kc)] (xE (some (.int r)) h1) (wH G b tb S h0)) (hlen : (lg_sl [.ref (b + kc)]).length ≤ M'.2.2.1) (hd : d' + 1 ≤ d) (hr : (st.map fun v => v.category).sum ≤ 8) (k : V G M d bc bs Q (pc + 3) ls (.int r :: st) h1) : V G M d bc bs Q pc ls (.ref (b + kc) :: st) (wH G b tb S h0) :=
  V_callV dg cs (wH_at hk) hV rfl hlen rfl hd (bc' := bc) (bs' := bs) (by omega) (by omega) hr (fun v h' hq => by cases hq.1; cases hq.2; exact k) (fun E h' hq => by cases hq.1)
theorem V_V0v {ci kc : Nat} {ks : List Nat}  (dg : decode M.2.1 pc = .ok (.invokevirtual idx, 3)) (cs : CV M.1.cls idx M' 0 ci) (hk : tb[kc]? = some (.inr (ci, ks))) (hV : VM G M' d' 0 0 [.ref (b + kc)] (xE none h1) (wH G b tb S h0)) (hlen : (lg_sl [.ref (b + kc)]).length ≤ M'.2.2.1) (hd : d' + 1 ≤ d) (hr : (st.map fun v => v.category).sum ≤ 8) (k : V G M d bc bs Q (pc + 3) ls st h1) : V G M d bc bs Q pc ls (.ref (b + kc) :: st) (wH G b tb S h0) :=
  V_callV dg cs (wH_at hk) hV rfl hlen rfl hd (bc' := bc) (bs' := bs) (by omega) (by omega) hr (fun v h' hq => by cases hq.1; cases hq.2; exact k) (fun E h' hq => by cases hq.1)
theorem V_V0r {ci kc : Nat} {ks : List Nat} {r : Nat} (dg : decode M.2.1 pc = .ok (.invokevirtual idx, 3)) (cs : CV M.1.cls idx M' 0 ci) (hk : tb[kc]? = some (.inr (ci, ks))) (hV : VM G M' d' 0 0 [.ref (b + kc)] (xE (some (.ref r)) h1) (wH G b tb S h0)) (hlen : (lg_sl [.ref (b + kc)]).length ≤ M'.2.2.1) (hd : d' + 1 ≤ d) (hr : (st.map fun v => v.category).sum ≤ 8) (k : V G M d bc bs Q (pc + 3) ls (.ref r :: st) h1) : V G M d bc bs Q pc ls (.ref (b + kc) :: st) (wH G b tb S h0) :=
  V_callV dg cs (wH_at hk) hV rfl hlen rfl hd (bc' := bc) (bs' := bs) (by omega) (by omega) hr (fun v h' hq => by cases hq.1; cases hq.2; exact k) (fun E h' hq => by cases hq.1)
theorem V_V1i {ci kc : Nat} {ks : List Nat} {v1 : Value} {r : Int32} (dg : decode M.2.1 pc = .ok (.invokevirtual idx, 3)) (cs : CV M.1.cls idx M' 1 ci) (hk : tb[kc]? = some (.inr (ci, ks))) (hV : VM G M' d' 0 0 [.ref (b + kc), v1] (xE (some (.int r)) h1) (wH G b tb S h0)) (hlen : (lg_sl [.ref (b + kc), v1]).length ≤ M'.2.2.1) (hd : d' + 1 ≤ d) (hr : (st.map fun v => v.category).sum ≤ 8) (k : V G M d bc bs Q (pc + 3) ls (.int r :: st) h1) : V G M d bc bs Q pc ls (v1 :: .ref (b + kc) :: st) (wH G b tb S h0) :=
  V_callV dg cs (wH_at hk) hV rfl hlen rfl hd (bc' := bc) (bs' := bs) (by omega) (by omega) hr (fun v h' hq => by cases hq.1; cases hq.2; exact k) (fun E h' hq => by cases hq.1)
theorem V_V1v {ci kc : Nat} {ks : List Nat} {v1 : Value}  (dg : decode M.2.1 pc = .ok (.invokevirtual idx, 3)) (cs : CV M.1.cls idx M' 1 ci) (hk : tb[kc]? = some (.inr (ci, ks))) (hV : VM G M' d' 0 0 [.ref (b + kc), v1] (xE none h1) (wH G b tb S h0)) (hlen : (lg_sl [.ref (b + kc), v1]).length ≤ M'.2.2.1) (hd : d' + 1 ≤ d) (hr : (st.map fun v => v.category).sum ≤ 8) (k : V G M d bc bs Q (pc + 3) ls st h1) : V G M d bc bs Q pc ls (v1 :: .ref (b + kc) :: st) (wH G b tb S h0) :=
  V_callV dg cs (wH_at hk) hV rfl hlen rfl hd (bc' := bc) (bs' := bs) (by omega) (by omega) hr (fun v h' hq => by cases hq.1; cases hq.2; exact k) (fun E h' hq => by cases hq.1)
theorem V_V1r {ci kc : Nat} {ks : List Nat} {v1 : Value} {r : Nat} (dg : decode M.2.1 pc = .ok (.invokevirtual idx, 3)) (cs : CV M.1.cls idx M' 1 ci) (hk : tb[kc]? = some (.inr (ci, ks))) (hV : VM G M' d' 0 0 [.ref (b + kc), v1] (xE (some (.ref r)) h1) (wH G b tb S h0)) (hlen : (lg_sl [.ref (b + kc), v1]).length ≤ M'.2.2.1) (hd : d' + 1 ≤ d) (hr : (st.map fun v => v.category).sum ≤ 8) (k : V G M d bc bs Q (pc + 3) ls (.ref r :: st) h1) : V G M d bc bs Q pc ls (v1 :: .ref (b + kc) :: st) (wH G b tb S h0) :=
  V_callV dg cs (wH_at hk) hV rfl hlen rfl hd (bc' := bc) (bs' := bs) (by omega) (by omega) hr (fun v h' hq => by cases hq.1; cases hq.2; exact k) (fun E h' hq => by cases hq.1)
theorem V_V2i {ci kc : Nat} {ks : List Nat} {v1 v2 : Value} {r : Int32} (dg : decode M.2.1 pc = .ok (.invokevirtual idx, 3)) (cs : CV M.1.cls idx M' 2 ci) (hk : tb[kc]? = some (.inr (ci, ks))) (hV : VM G M' d' 0 0 [.ref (b + kc), v1, v2] (xE (some (.int r)) h1) (wH G b tb S h0)) (hlen : (lg_sl [.ref (b + kc), v1, v2]).length ≤ M'.2.2.1) (hd : d' + 1 ≤ d) (hr : (st.map fun v => v.category).sum ≤ 8) (k : V G M d bc bs Q (pc + 3) ls (.int r :: st) h1) : V G M d bc bs Q pc ls (v2 :: v1 :: .ref (b + kc) :: st) (wH G b tb S h0) :=
  V_callV dg cs (wH_at hk) hV rfl hlen rfl hd (bc' := bc) (bs' := bs) (by omega) (by omega) hr (fun v h' hq => by cases hq.1; cases hq.2; exact k) (fun E h' hq => by cases hq.1)
theorem V_V2v {ci kc : Nat} {ks : List Nat} {v1 v2 : Value}  (dg : decode M.2.1 pc = .ok (.invokevirtual idx, 3)) (cs : CV M.1.cls idx M' 2 ci) (hk : tb[kc]? = some (.inr (ci, ks))) (hV : VM G M' d' 0 0 [.ref (b + kc), v1, v2] (xE none h1) (wH G b tb S h0)) (hlen : (lg_sl [.ref (b + kc), v1, v2]).length ≤ M'.2.2.1) (hd : d' + 1 ≤ d) (hr : (st.map fun v => v.category).sum ≤ 8) (k : V G M d bc bs Q (pc + 3) ls st h1) : V G M d bc bs Q pc ls (v2 :: v1 :: .ref (b + kc) :: st) (wH G b tb S h0) :=
  V_callV dg cs (wH_at hk) hV rfl hlen rfl hd (bc' := bc) (bs' := bs) (by omega) (by omega) hr (fun v h' hq => by cases hq.1; cases hq.2; exact k) (fun E h' hq => by cases hq.1)
theorem V_V2r {ci kc : Nat} {ks : List Nat} {v1 v2 : Value} {r : Nat} (dg : decode M.2.1 pc = .ok (.invokevirtual idx, 3)) (cs : CV M.1.cls idx M' 2 ci) (hk : tb[kc]? = some (.inr (ci, ks))) (hV : VM G M' d' 0 0 [.ref (b + kc), v1, v2] (xE (some (.ref r)) h1) (wH G b tb S h0)) (hlen : (lg_sl [.ref (b + kc), v1, v2]).length ≤ M'.2.2.1) (hd : d' + 1 ≤ d) (hr : (st.map fun v => v.category).sum ≤ 8) (k : V G M d bc bs Q (pc + 3) ls (.ref r :: st) h1) : V G M d bc bs Q pc ls (v2 :: v1 :: .ref (b + kc) :: st) (wH G b tb S h0) :=
  V_callV dg cs (wH_at hk) hV rfl hlen rfl hd (bc' := bc) (bs' := bs) (by omega) (by omega) hr (fun v h' hq => by cases hq.1; cases hq.2; exact k) (fun E h' hq => by cases hq.1)
theorem V_V3i {ci kc : Nat} {ks : List Nat} {v1 v2 v3 : Value} {r : Int32} (dg : decode M.2.1 pc = .ok (.invokevirtual idx, 3)) (cs : CV M.1.cls idx M' 3 ci) (hk : tb[kc]? = some (.inr (ci, ks))) (hV : VM G M' d' 0 0 [.ref (b + kc), v1, v2, v3] (xE (some (.int r)) h1) (wH G b tb S h0)) (hlen : (lg_sl [.ref (b + kc), v1, v2, v3]).length ≤ M'.2.2.1) (hd : d' + 1 ≤ d) (hr : (st.map fun v => v.category).sum ≤ 8) (k : V G M d bc bs Q (pc + 3) ls (.int r :: st) h1) : V G M d bc bs Q pc ls (v3 :: v2 :: v1 :: .ref (b + kc) :: st) (wH G b tb S h0) :=
  V_callV dg cs (wH_at hk) hV rfl hlen rfl hd (bc' := bc) (bs' := bs) (by omega) (by omega) hr (fun v h' hq => by cases hq.1; cases hq.2; exact k) (fun E h' hq => by cases hq.1)
theorem V_V3v {ci kc : Nat} {ks : List Nat} {v1 v2 v3 : Value}  (dg : decode M.2.1 pc = .ok (.invokevirtual idx, 3)) (cs : CV M.1.cls idx M' 3 ci) (hk : tb[kc]? = some (.inr (ci, ks))) (hV : VM G M' d' 0 0 [.ref (b + kc), v1, v2, v3] (xE none h1) (wH G b tb S h0)) (hlen : (lg_sl [.ref (b + kc), v1, v2, v3]).length ≤ M'.2.2.1) (hd : d' + 1 ≤ d) (hr : (st.map fun v => v.category).sum ≤ 8) (k : V G M d bc bs Q (pc + 3) ls st h1) : V G M d bc bs Q pc ls (v3 :: v2 :: v1 :: .ref (b + kc) :: st) (wH G b tb S h0) :=
  V_callV dg cs (wH_at hk) hV rfl hlen rfl hd (bc' := bc) (bs' := bs) (by omega) (by omega) hr (fun v h' hq => by cases hq.1; cases hq.2; exact k) (fun E h' hq => by cases hq.1)
theorem V_V3r {ci kc : Nat} {ks : List Nat} {v1 v2 v3 : Value} {r : Nat} (dg : decode M.2.1 pc = .ok (.invokevirtual idx, 3)) (cs : CV M.1.cls idx M' 3 ci) (hk : tb[kc]? = some (.inr (ci, ks))) (hV : VM G M' d' 0 0 [.ref (b + kc), v1, v2, v3] (xE (some (.ref r)) h1) (wH G b tb S h0)) (hlen : (lg_sl [.ref (b + kc), v1, v2, v3]).length ≤ M'.2.2.1) (hd : d' + 1 ≤ d) (hr : (st.map fun v => v.category).sum ≤ 8) (k : V G M d bc bs Q (pc + 3) ls (.ref r :: st) h1) : V G M d bc bs Q pc ls (v3 :: v2 :: v1 :: .ref (b + kc) :: st) (wH G b tb S h0) :=
  V_callV dg cs (wH_at hk) hV rfl hlen rfl hd (bc' := bc) (bs' := bs) (by omega) (by omega) hr (fun v h' hq => by cases hq.1; cases hq.2; exact k) (fun E h' hq => by cases hq.1)
theorem V_V4i {ci kc : Nat} {ks : List Nat} {v1 v2 v3 v4 : Value} {r : Int32} (dg : decode M.2.1 pc = .ok (.invokevirtual idx, 3)) (cs : CV M.1.cls idx M' 4 ci) (hk : tb[kc]? = some (.inr (ci, ks))) (hV : VM G M' d' 0 0 [.ref (b + kc), v1, v2, v3, v4] (xE (some (.int r)) h1) (wH G b tb S h0)) (hlen : (lg_sl [.ref (b + kc), v1, v2, v3, v4]).length ≤ M'.2.2.1) (hd : d' + 1 ≤ d) (hr : (st.map fun v => v.category).sum ≤ 8) (k : V G M d bc bs Q (pc + 3) ls (.int r :: st) h1) : V G M d bc bs Q pc ls (v4 :: v3 :: v2 :: v1 :: .ref (b + kc) :: st) (wH G b tb S h0) :=
  V_callV dg cs (wH_at hk) hV rfl hlen rfl hd (bc' := bc) (bs' := bs) (by omega) (by omega) hr (fun v h' hq => by cases hq.1; cases hq.2; exact k) (fun E h' hq => by cases hq.1)
theorem V_V4v {ci kc : Nat} {ks : List Nat} {v1 v2 v3 v4 : Value}  (dg : decode M.2.1 pc = .ok (.invokevirtual idx, 3)) (cs : CV M.1.cls idx M' 4 ci) (hk : tb[kc]? = some (.inr (ci, ks))) (hV : VM G M' d' 0 0 [.ref (b + kc), v1, v2, v3, v4] (xE none h1) (wH G b tb S h0)) (hlen : (lg_sl [.ref (b + kc), v1, v2, v3, v4]).length ≤ M'.2.2.1) (hd : d' + 1 ≤ d) (hr : (st.map fun v => v.category).sum ≤ 8) (k : V G M d bc bs Q (pc + 3) ls st h1) : V G M d bc bs Q pc ls (v4 :: v3 :: v2 :: v1 :: .ref (b + kc) :: st) (wH G b tb S h0) :=
  V_callV dg cs (wH_at hk) hV rfl hlen rfl hd (bc' := bc) (bs' := bs) (by omega) (by omega) hr (fun v h' hq => by cases hq.1; cases hq.2; exact k) (fun E h' hq => by cases hq.1)
theorem V_V4r {ci kc : Nat} {ks : List Nat} {v1 v2 v3 v4 : Value} {r : Nat} (dg : decode M.2.1 pc = .ok (.invokevirtual idx, 3)) (cs : CV M.1.cls idx M' 4 ci) (hk : tb[kc]? = some (.inr (ci, ks))) (hV : VM G M' d' 0 0 [.ref (b + kc), v1, v2, v3, v4] (xE (some (.ref r)) h1) (wH G b tb S h0)) (hlen : (lg_sl [.ref (b + kc), v1, v2, v3, v4]).length ≤ M'.2.2.1) (hd : d' + 1 ≤ d) (hr : (st.map fun v => v.category).sum ≤ 8) (k : V G M d bc bs Q (pc + 3) ls (.ref r :: st) h1) : V G M d bc bs Q pc ls (v4 :: v3 :: v2 :: v1 :: .ref (b + kc) :: st) (wH G b tb S h0) :=
  V_callV dg cs (wH_at hk) hV rfl hlen rfl hd (bc' := bc) (bs' := bs) (by omega) (by omega) hr (fun v h' hq => by cases hq.1; cases hq.2; exact k) (fun E h' hq => by cases hq.1)
theorem V_V5i {ci kc : Nat} {ks : List Nat} {v1 v2 v3 v4 v5 : Value} {r : Int32} (dg : decode M.2.1 pc = .ok (.invokevirtual idx, 3)) (cs : CV M.1.cls idx M' 5 ci) (hk : tb[kc]? = some (.inr (ci, ks))) (hV : VM G M' d' 0 0 [.ref (b + kc), v1, v2, v3, v4, v5] (xE (some (.int r)) h1) (wH G b tb S h0)) (hlen : (lg_sl [.ref (b + kc), v1, v2, v3, v4, v5]).length ≤ M'.2.2.1) (hd : d' + 1 ≤ d) (hr : (st.map fun v => v.category).sum ≤ 8) (k : V G M d bc bs Q (pc + 3) ls (.int r :: st) h1) : V G M d bc bs Q pc ls (v5 :: v4 :: v3 :: v2 :: v1 :: .ref (b + kc) :: st) (wH G b tb S h0) :=
  V_callV dg cs (wH_at hk) hV rfl hlen rfl hd (bc' := bc) (bs' := bs) (by omega) (by omega) hr (fun v h' hq => by cases hq.1; cases hq.2; exact k) (fun E h' hq => by cases hq.1)
theorem V_V5v {ci kc : Nat} {ks : List Nat} {v1 v2 v3 v4 v5 : Value}  (dg : decode M.2.1 pc = .ok (.invokevirtual idx, 3)) (cs : CV M.1.cls idx M' 5 ci) (hk : tb[kc]? = some (.inr (ci, ks))) (hV : VM G M' d' 0 0 [.ref (b + kc), v1, v2, v3, v4, v5] (xE none h1) (wH G b tb S h0)) (hlen : (lg_sl [.ref (b + kc), v1, v2, v3, v4, v5]).length ≤ M'.2.2.1) (hd : d' + 1 ≤ d) (hr : (st.map fun v => v.category).sum ≤ 8) (k : V G M d bc bs Q (pc + 3) ls st h1) : V G M d bc bs Q pc ls (v5 :: v4 :: v3 :: v2 :: v1 :: .ref (b + kc) :: st) (wH G b tb S h0) :=
  V_callV dg cs (wH_at hk) hV rfl hlen rfl hd (bc' := bc) (bs' := bs) (by omega) (by omega) hr (fun v h' hq => by cases hq.1; cases hq.2; exact k) (fun E h' hq => by cases hq.1)
theorem V_V5r {ci kc : Nat} {ks : List Nat} {v1 v2 v3 v4 v5 : Value} {r : Nat} (dg : decode M.2.1 pc = .ok (.invokevirtual idx, 3)) (cs : CV M.1.cls idx M' 5 ci) (hk : tb[kc]? = some (.inr (ci, ks))) (hV : VM G M' d' 0 0 [.ref (b + kc), v1, v2, v3, v4, v5] (xE (some (.ref r)) h1) (wH G b tb S h0)) (hlen : (lg_sl [.ref (b + kc), v1, v2, v3, v4, v5]).length ≤ M'.2.2.1) (hd : d' + 1 ≤ d) (hr : (st.map fun v => v.category).sum ≤ 8) (k : V G M d bc bs Q (pc + 3) ls (.ref r :: st) h1) : V G M d bc bs Q pc ls (v5 :: v4 :: v3 :: v2 :: v1 :: .ref (b + kc) :: st) (wH G b tb S h0) :=
  V_callV dg cs (wH_at hk) hV rfl hlen rfl hd (bc' := bc) (bs' := bs) (by omega) (by omega) hr (fun v h' hq => by cases hq.1; cases hq.2; exact k) (fun E h' hq => by cases hq.1)
theorem V_S0t {E : String} (dg : decode M.2.1 pc = .ok (.invokestatic idx, 3)) (cs : CS M.1.cls idx M' 0) (hV : VM G M' d' 1 6 [] (xT E h) h) (hlen : (lg_sl []).length ≤ M'.2.2.1) (hd : d' + 1 ≤ d) (hr : (st.map fun v => v.category).sum ≤ 8) (kx : ∀ h' : xH, h'.1 = h.1 → VX G M d bc bs Q pc ls E h') : V G M d (bc + 1) (bs + 6) Q pc ls (st) h :=
  V_callS dg cs hV rfl hlen rfl hd (bc' := bc) (bs' := bs) (by omega) (by omega) hr (fun v h' hq => by cases hq.1) (fun E h' hq => by cases hq.1; exact kx h' hq.2)
theorem V_V0t {ci kc : Nat} {ks : List Nat} {E : String} (dg : decode M.2.1 pc = .ok (.invokevirtual idx, 3)) (cs : CV M.1.cls idx M' 0 ci) (hk : tb[kc]? = some (.inr (ci, ks))) (hV : VM G M' d' 1 6 [.ref (b + kc)] (xT E (wH G b tb S h0)) (wH G b tb S h0)) (hlen : (lg_sl [.ref (b + kc)]).length ≤ M'.2.2.1) (hd : d' + 1 ≤ d) (hr : (st.map fun v => v.category).sum ≤ 8) (kx : ∀ h' : xH, h'.1 = (wH G b tb S h0).1 → VX G M d bc bs Q pc ls E h') : V G M d (bc + 1) (bs + 6) Q pc ls (.ref (b + kc) :: st) (wH G b tb S h0) :=
  V_callV dg cs (wH_at hk) hV rfl hlen rfl hd (bc' := bc) (bs' := bs) (by omega) (by omega) hr (fun v h' hq => by cases hq.1) (fun E h' hq => by cases hq.1; exact kx h' hq.2)
theorem V_S1t {v1 : Value} {E : String} (dg : decode M.2.1 pc = .ok (.invokestatic idx, 3)) (cs : CS M.1.cls idx M' 1) (hV : VM G M' d' 1 6 [v1] (xT E h) h) (hlen : (lg_sl [v1]).length ≤ M'.2.2.1) (hd : d' + 1 ≤ d) (hr : (st.map fun v => v.category).sum ≤ 8) (kx : ∀ h' : xH, h'.1 = h.1 → VX G M d bc bs Q pc ls E h') : V G M d (bc + 1) (bs + 6) Q pc ls (v1 :: st) h :=
  V_callS dg cs hV rfl hlen rfl hd (bc' := bc) (bs' := bs) (by omega) (by omega) hr (fun v h' hq => by cases hq.1) (fun E h' hq => by cases hq.1; exact kx h' hq.2)
theorem V_V1t {ci kc : Nat} {ks : List Nat} {v1 : Value} {E : String} (dg : decode M.2.1 pc = .ok (.invokevirtual idx, 3)) (cs : CV M.1.cls idx M' 1 ci) (hk : tb[kc]? = some (.inr (ci, ks))) (hV : VM G M' d' 1 6 [.ref (b + kc), v1] (xT E (wH G b tb S h0)) (wH G b tb S h0)) (hlen : (lg_sl [.ref (b + kc), v1]).length ≤ M'.2.2.1) (hd : d' + 1 ≤ d) (hr : (st.map fun v => v.category).sum ≤ 8) (kx : ∀ h' : xH, h'.1 = (wH G b tb S h0).1 → VX G M d bc bs Q pc ls E h') : V G M d (bc + 1) (bs + 6) Q pc ls (v1 :: .ref (b + kc) :: st) (wH G b tb S h0) :=
  V_callV dg cs (wH_at hk) hV rfl hlen rfl hd (bc' := bc) (bs' := bs) (by omega) (by omega) hr (fun v h' hq => by cases hq.1) (fun E h' hq => by cases hq.1; exact kx h' hq.2)
theorem V_S2t {v1 v2 : Value} {E : String} (dg : decode M.2.1 pc = .ok (.invokestatic idx, 3)) (cs : CS M.1.cls idx M' 2) (hV : VM G M' d' 1 6 [v1, v2] (xT E h) h) (hlen : (lg_sl [v1, v2]).length ≤ M'.2.2.1) (hd : d' + 1 ≤ d) (hr : (st.map fun v => v.category).sum ≤ 8) (kx : ∀ h' : xH, h'.1 = h.1 → VX G M d bc bs Q pc ls E h') : V G M d (bc + 1) (bs + 6) Q pc ls (v2 :: v1 :: st) h :=
  V_callS dg cs hV rfl hlen rfl hd (bc' := bc) (bs' := bs) (by omega) (by omega) hr (fun v h' hq => by cases hq.1) (fun E h' hq => by cases hq.1; exact kx h' hq.2)
theorem V_V2t {ci kc : Nat} {ks : List Nat} {v1 v2 : Value} {E : String} (dg : decode M.2.1 pc = .ok (.invokevirtual idx, 3)) (cs : CV M.1.cls idx M' 2 ci) (hk : tb[kc]? = some (.inr (ci, ks))) (hV : VM G M' d' 1 6 [.ref (b + kc), v1, v2] (xT E (wH G b tb S h0)) (wH G b tb S h0)) (hlen : (lg_sl [.ref (b + kc), v1, v2]).length ≤ M'.2.2.1) (hd : d' + 1 ≤ d) (hr : (st.map fun v => v.category).sum ≤ 8) (kx : ∀ h' : xH, h'.1 = (wH G b tb S h0).1 → VX G M d bc bs Q pc ls E h') : V G M d (bc + 1) (bs + 6) Q pc ls (v2 :: v1 :: .ref (b + kc) :: st) (wH G b tb S h0) :=
  V_callV dg cs (wH_at hk) hV rfl hlen rfl hd (bc' := bc) (bs' := bs) (by omega) (by omega) hr (fun v h' hq => by cases hq.1) (fun E h' hq => by cases hq.1; exact kx h' hq.2)
theorem V_S3t {v1 v2 v3 : Value} {E : String} (dg : decode M.2.1 pc = .ok (.invokestatic idx, 3)) (cs : CS M.1.cls idx M' 3) (hV : VM G M' d' 1 6 [v1, v2, v3] (xT E h) h) (hlen : (lg_sl [v1, v2, v3]).length ≤ M'.2.2.1) (hd : d' + 1 ≤ d) (hr : (st.map fun v => v.category).sum ≤ 8) (kx : ∀ h' : xH, h'.1 = h.1 → VX G M d bc bs Q pc ls E h') : V G M d (bc + 1) (bs + 6) Q pc ls (v3 :: v2 :: v1 :: st) h :=
  V_callS dg cs hV rfl hlen rfl hd (bc' := bc) (bs' := bs) (by omega) (by omega) hr (fun v h' hq => by cases hq.1) (fun E h' hq => by cases hq.1; exact kx h' hq.2)
theorem V_V3t {ci kc : Nat} {ks : List Nat} {v1 v2 v3 : Value} {E : String} (dg : decode M.2.1 pc = .ok (.invokevirtual idx, 3)) (cs : CV M.1.cls idx M' 3 ci) (hk : tb[kc]? = some (.inr (ci, ks))) (hV : VM G M' d' 1 6 [.ref (b + kc), v1, v2, v3] (xT E (wH G b tb S h0)) (wH G b tb S h0)) (hlen : (lg_sl [.ref (b + kc), v1, v2, v3]).length ≤ M'.2.2.1) (hd : d' + 1 ≤ d) (hr : (st.map fun v => v.category).sum ≤ 8) (kx : ∀ h' : xH, h'.1 = (wH G b tb S h0).1 → VX G M d bc bs Q pc ls E h') : V G M d (bc + 1) (bs + 6) Q pc ls (v3 :: v2 :: v1 :: .ref (b + kc) :: st) (wH G b tb S h0) :=
  V_callV dg cs (wH_at hk) hV rfl hlen rfl hd (bc' := bc) (bs' := bs) (by omega) (by omega) hr (fun v h' hq => by cases hq.1) (fun E h' hq => by cases hq.1; exact kx h' hq.2)
/-- a local is forgotten -/
theorem V_forget (i : Nat) (k : V G M d bc bs Q pc (ls.set i none) st h) : V G M d bc bs Q pc ls st h := V_ls (fun j v hj => by
  by_cases hji : j = i
  · subst hji
    rw [List.getElem?_set] at hj
    split at hj
    · split at hj <;> cases hj
    · exact hj
  · rwa [List.getElem?_set_ne (fun q => hji q.symm)] at hj) k
theorem iincN {i n : Nat} {z : Int} (hz : Int32.ofInt z = nI n) : nI i + Int32.ofInt z = nI (i + n) := by rw [hz, nI_add]
theorem VE_iret {v r : Int32} (dg : decode M.2.1 pc = .ok (.ireturn, 1)) (hr : M.2.2.2.1 = some .int) (he : v = r) (hh : h = h1) : V G M d bc bs (xE (some (.int r)) h1) pc ls [.int v] h := by
  subst he; subst hh
  exact V_iret dg hr ⟨rfl, rfl⟩
theorem VE_zret {v r : Int32} (dg : decode M.2.1 pc = .ok (.ireturn, 1)) (hr : M.2.2.2.1 = some .boolean) (hv : v = 0 ∨ v = 1) (he : v = r) (hh : h = h1) : V G M d bc bs (xE (some (.int r)) h1) pc ls [.int v] h := by
  subst he; subst hh
  exact V_zret dg hr (by rcases hv with rfl | rfl <;> rfl) ⟨rfl, rfl⟩
theorem VE_vret (dg : decode M.2.1 pc = .ok (.return_, 1)) (hr : M.2.2.2.1 = none) (hh : h = h1) : V G M d bc bs (xE none h1) pc ls [] h := by
  subst hh
  exact V_vret dg hr ⟨rfl, rfl⟩
end VW
