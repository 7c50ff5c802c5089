/-! ===== making: cells side by side, one after another ===== -/
section C0
variable {G : xG} {M M' : xM} {d d' bc bs mc ms : Nat} {Q : xR → xH → Prop} {pc idx : Nat} {ls : List (Option Value)} {st : List Value} {b n k : Nat} {f g : Nat → Option xC} {h h' h0 h1 : xH} {c c' : xC}
/-- n cells from b on; the next address is known -/
def pN (b n : Nat) (f : Nat → Option xC) (h0 : xH) : xH := (fun a => if b ≤ a ∧ a < b + n then f (a - b) else h0.1 a, some (b + n))
def uC (f : Nat → Option xC) (k : Nat) (c : xC) : Nat → Option xC := fun j => if j = k then some c else f j
/-- a fresh array; an object by the table -/
def aC (t n : Nat) : xC := .inl (t, n, .inl (fun _ => 0))
def oC (b ci : Nat) (ks : List Nat) (r : Nat → Int32) : xC := .inr (ci, objF b ks r)
def z0 : Nat → Int32 := fun _ => 0
def rw1 (i : Nat) (x : Int32) : Nat → Int32 := fun j => if j = i then x else 0
def rw2 (i : Nat) (x : Int32) (i2 : Nat) (x2 : Int32) : Nat → Int32 := fun j => if j = i then x else if j = i2 then x2 else 0
theorem pN_at (hk : k < n) : (pN b n f h0).1 (b + k) = f k := by
  simp only [pN]
  rw [if_pos ⟨Nat.le_add_right b k, by omega⟩, Nat.add_sub_cancel_left]
theorem pN_new : xN (pN b n f h0) (b + n) c = pN b (n + 1) (uC f n c) h0 := by
  refine Prod.ext (funext fun a => ?_) rfl
  simp only [xN, pN, uC]
  by_cases e : a = b + n
  · subst e
    rw [if_pos rfl, if_pos ⟨Nat.le_add_right b n, by omega⟩, Nat.add_sub_cancel_left, if_pos rfl]
  · rw [if_neg e]
    by_cases q : b ≤ a ∧ a < b + n
    · rw [if_pos q, if_pos (by omega), if_neg (by omega)]
    · rw [if_neg q, if_neg (by omega)]
theorem pN_put (hk : k < n) : xU (pN b n f h0) (b + k) c = pN b n (uC f k c) h0 := by
  refine Prod.ext (funext fun a => ?_) rfl
  simp only [xU, pN, uC]
  by_cases e : a = b + k
  · subst e
    rw [if_pos rfl, if_pos ⟨Nat.le_add_right b k, by omega⟩, Nat.add_sub_cancel_left, if_pos rfl]
  · rw [if_neg e]
    by_cases q : b ≤ a ∧ a < b + n
    · rw [if_pos q, if_pos q, if_neg (by omega)]
    · rw [if_neg q, if_neg q]
theorem pN_0 {x : Nat → Option xC} : (x, some b) = pN b 0 f (x, h0.2) := by
  refine Prod.ext (funext fun a => ?_) rfl
  simp only [pN]
  rw [if_neg (by omega)]
/-- what is seen may be seen otherwise -/
theorem V_h (e2 : ∀ n, h'.2 = some n → h.2 = some n) (e : ∀ a c', h'.1 a = some c' → ∃ c, h.1 a = some c ∧ ∀ H, xAt G a c H → xAt G a c' H) (k : V G M d bc bs Q pc ls st h') : V G M d bc bs Q pc ls st h := fun p e' R s m args below meth c H locs cells slots la C hP hS hl h1 h2 =>
  k p e' R s m args below meth c H locs cells slots la C ⟨fun a c' hc => by
    obtain ⟨c0, q1, q2⟩ := e a c' hc
    exact q2 H (hP.1 a c0 q1), fun n hn => hP.2 n (e2 n hn)⟩ hS hl h1 h2
theorem xAt_obj {ci N a : Nat} {C : String} {T : u_T} {F F' : Nat → Value} (hc : xcl[ci]? = some (C, T, N)) (hF : ∀ j, j < N → F j = F' j) (H : Heap) (h : xAt G a (.inr (ci, F)) H) : xAt G a (.inr (ci, F')) H := by
  obtain ⟨r, g1, cell, q1, q2, q3, q4⟩ := h
  have hr : r = (C, T, N) := Option.some.inj (g1.symm.trans hc)
  subst hr
  exact ⟨_, g1, cell, q1, q2, q3, fun k hk => (q4 k hk).trans (by show some (F k) = some (F' k); rw [hF k hk])⟩
theorem arrV_congr {cA : ClassId} {n : Nat} {f g : Nat → Value} (h : ∀ j, j < n → f j = g j) : arrV cA n f = arrV cA n g := by
  unfold arrV
  congr 1
  refine Array.ext (by simp) (fun i h1 h2 => ?_)
  simp at h1
  simp [h i h1]
theorem xAt_str {N a : Nat} {f g : Nat → Option Nat} (hF : ∀ j, j < N → f j = g j) (H : Heap) (h : xAt G a (.inl (4, N, .inr (.inr (.inr (.inr f))))) H) : xAt G a (.inl (4, N, .inr (.inr (.inr (.inr g))))) H := by
  show H[a]? = some (vp_cell _ _)
  have h : H[a]? = some (vp_cell _ _) := h
  rw [h, vp_cell_q, vp_cell_q, arrV_congr (fun j hj => by rw [hF j hj])]
theorem fl0 {P : Nat → Prop} : ∀ j, j < 0 → P j := fun j hj => absurd hj (Nat.not_lt_zero j)
theorem fl {P : Nat → Prop} {n : Nat} (h : ∀ j, j < n → P j) (hn : P n) : ∀ j, j < n + 1 → P j := fun j hj => by
  by_cases e : j = n
  · rw [e]; exact hn
  · exact h j (by omega)
/-- what was made is a world by its table -/
theorem V_pW {tb : xTb} {S : Nat → Nat → Int32} (hn : tb.length = n) (e : ∀ j, j < n → ∃ c c', f j = some c ∧ cellR G b tb j (S j) = some c' ∧ ∀ H, xAt G (b + j) c H → xAt G (b + j) c' H) (k : V G M d bc bs Q pc ls st (wH G b tb S (h0.1, some (b + n)))) : V G M d bc bs Q pc ls st (pN b n f h0) := by
  refine V_h (h' := wH G b tb S (h0.1, some (b + n))) (fun _ h => h) (fun a c' hc => ?_) k
  simp only [wH] at hc
  by_cases q : b ≤ a ∧ a < b + tb.length
  · rw [if_pos q] at hc
    obtain ⟨j, rfl⟩ : ∃ j, a = b + j := ⟨a - b, by omega⟩
    rw [Nat.add_sub_cancel_left] at hc
    obtain ⟨c0, c1, e1, e2, e3⟩ := e j (by omega)
    rw [e2] at hc
    cases hc
    exact ⟨c0, by rw [pN_at (by omega)]; exact e1, e3⟩
  · rw [if_neg q] at hc
    refine ⟨c', ?_, fun _ h => h⟩
    simp only [pN]
    rw [if_neg (by omega)]
    exact hc
theorem w_arI : Cond.arrayClass .int ∈ lw_good := lw_t (i := 110) (by decide +kernel) (by decide +kernel)
theorem w_arB : Cond.arrayClass .byte ∈ lw_good := lw_t (i := 73) (by decide +kernel) (by decide +kernel)
theorem w_arZ : Cond.arrayClass .boolean ∈ lw_good := lw_t (i := 1513) (by decide +kernel) (by decide +kernel)
theorem w_arJ : Cond.arrayClass .long ∈ lw_good := lw_t (i := 1966) (by decide +kernel) (by decide +kernel)
theorem w_arS : Cond.classLink RX12 9 "java/lang/String" ∈ lw_good := lw_t (i := 1330) (by decide +kernel) (by decide +kernel)
theorem P_newI {N : Nat} {x : Int32} (dg : decode M.2.1 pc = .ok (.newarray .int, 2)) (hx : x = nI N) (hN : N ≤ 2000) (kk : V G M d bc bs Q (pc + 2) ls (.ref (b + n) :: st) (pN b (n + 1) (uC f n (aC 0 N)) h0)) : V G M d (bc + 1) (bs + N) Q pc ls (.int x :: st) (pN b n f h0) := by
  subst hx
  refine V_newa (t := 0) (x := (N, .inl (fun _ => 0))) dg w_arI rfl (fun _ => rfl) (fun _ _ h => h) (nI_pos (by omega)) (nI_clamp (by omega)) (by show N * 4 ≤ _; omega) rfl (fun _ => ?_)
  rw [pN_new]
  exact kk
theorem P_newB {N : Nat} {x : Int32} (dg : decode M.2.1 pc = .ok (.newarray .byte, 2)) (hx : x = nI N) (hN : N ≤ 2000) (kk : V G M d bc bs Q (pc + 2) ls (.ref (b + n) :: st) (pN b (n + 1) (uC f n (aC 1 N)) h0)) : V G M d (bc + 1) (bs + N) Q pc ls (.int x :: st) (pN b n f h0) := by
  subst hx
  refine V_newa (t := 1) (x := (N, .inl (fun _ => 0))) dg w_arB rfl (fun _ => rfl) (fun _ _ h => h) (nI_pos (by omega)) (nI_clamp (by omega)) (by show N * 1 ≤ _; omega) rfl (fun _ => ?_)
  rw [pN_new]
  exact kk
theorem P_newZ {N : Nat} {x : Int32} (dg : decode M.2.1 pc = .ok (.newarray .boolean, 2)) (hx : x = nI N) (hN : N ≤ 2000) (kk : V G M d bc bs Q (pc + 2) ls (.ref (b + n) :: st) (pN b (n + 1) (uC f n (aC 2 N)) h0)) : V G M d (bc + 1) (bs + N) Q pc ls (.int x :: st) (pN b n f h0) := by
  subst hx
  refine V_newa (t := 2) (x := (N, .inl (fun _ => 0))) dg w_arZ rfl (fun _ => rfl) (fun _ _ h => h) (nI_pos (by omega)) (nI_clamp (by omega)) (by show N * 1 ≤ _; omega) rfl (fun _ => ?_)
  rw [pN_new]
  exact kk
theorem P_newJ {N : Nat} {x : Int32} (dg : decode M.2.1 pc = .ok (.newarray .long, 2)) (hx : x = nI N) (hN : N ≤ 2000) (kk : V G M d bc bs Q (pc + 2) ls (.ref (b + n) :: st) (pN b (n + 1) (uC f n (.inl (3, N, .inr (.inl (fun _ => 0))))) h0)) : V G M d (bc + 1) (bs + N) Q pc ls (.int x :: st) (pN b n f h0) := by
  subst hx
  refine V_newa (t := 3) (x := (N, .inr (.inl (fun _ => 0)))) dg w_arJ rfl (fun _ => rfl) (fun _ _ h => h) (nI_pos (by omega)) (nI_clamp (by omega)) (by show N * 8 ≤ _; omega) rfl (fun _ => ?_)
  rw [pN_new]
  exact kk
theorem P_newS {N : Nat} {x : Int32} (dg : decode M.2.1 pc = .ok (.anewarray idx, 3)) (hw : Cond.classLink M.1.cls idx "java/lang/String" ∈ lw_good) (hx : x = nI N) (hN : N ≤ 2000) (kk : V G M d bc bs Q (pc + 3) ls (.ref (b + n) :: st) (pN b (n + 1) (uC f n (.inl (4, N, .inr (.inr (.inr (.inr (fun _ => none))))))) h0)) : V G M d (bc + 1) (bs + N) Q pc ls (.int x :: st) (pN b n f h0) := by
  subst hx
  refine V_anew dg hw (nI_pos (by omega)) (nI_clamp (by omega)) (by omega) rfl (fun _ => ?_)
  rw [pN_new]
  exact kk
theorem P_aast {N i9 j : Nat} {y : Nat → Option Nat} {x : Int32} {q9 : String × Nat × String × List Int32} (dg : decode M.2.1 pc = .ok (.aastore, 1)) (hk : k < n) (hh : f k = some (.inl (4, N, .inr (.inr (.inr (.inr y)))))) (hb : gB G ≤ b) (hs : xStr[i9]? = some q9) (hx : x = nI j) (hj : j < N) (hN : N ≤ 2000) (kk : V G M d bc bs Q (pc + 1) ls st (pN b n (uC f k (.inl (4, N, .inr (.inr (.inr (.inr (va_up y j (some (gK G i9))))))))) h0)) : V G M d bc bs Q pc ls (.ref (gK G i9) :: .int x :: .ref (b + k) :: st) (pN b n f h0) := by
  subst hx
  refine V_aast dg ((pN_at hk).trans hh) (by omega) hs (vp_in_nI hj (by omega)) ?_
  rw [nI_clamp (by omega), pN_put hk]
  exact kk
theorem P_iast {N j : Nat} {y : Nat → Int32} {x v : Int32} (dg : decode M.2.1 pc = .ok (.iastore, 1)) (hk : k < n) (hh : f k = some (.inl (0, N, .inl y))) (hb : gB G ≤ b) (hx : x = nI j) (hj : j < N) (hN : N ≤ 2000) (kk : V G M d bc bs Q (pc + 1) ls st (pN b n (uC f k (.inl (0, N, .inl (upd y j v)))) h0)) : V G M d bc bs Q pc ls (.int v :: .int x :: .ref (b + k) :: st) (pN b n f h0) := by
  subst hx
  refine V_iast dg ((pN_at hk).trans hh) (by omega) (vp_in_nI hj (by omega)) ?_
  rw [nI_clamp (by omega), pN_put hk]
  exact kk
theorem P_get {ci j : Nat} {F : Nat → Value} {v : Value} (dg : decode M.2.1 pc = .ok (.getfield idx, 3)) (fl : FL M.1.cls idx ci j) (hk : k < n) (hh : f k = some (.inr (ci, F))) (hv : F j = v) (kk : V G M d bc bs Q (pc + 3) ls (v :: st) (pN b n f h0)) : V G M d bc bs Q pc ls (.ref (b + k) :: st) (pN b n f h0) :=
  V_get dg fl ((pN_at hk).trans hh) hv kk
theorem P_new {ci N : Nat} {F : Nat → Value} (dg : decode M.2.1 pc = .ok (.new idx, 3)) (nw : NW M.1.cls idx ci N F) (kk : V G M d bc bs Q (pc + 3) ls (.ref (b + n) :: st) (pN b (n + 1) (uC f n (.inr (ci, F))) h0)) : V G M d (bc + 1) (bs + N) Q pc ls st (pN b n f h0) := by
  refine V_new dg nw rfl (fun _ => ?_)
  rw [pN_new]
  exact kk
theorem P_put {ci j : Nat} {F : Nat → Value} {v : Value} (dg : decode M.2.1 pc = .ok (.putfield idx, 3)) (fl : FL M.1.cls idx ci j) (ft : FT ci) (fp : FP ci j v) (hk : k < n) (hh : f k = some (.inr (ci, F))) (hb : gB G ≤ b) (kk : V G M d bc bs Q (pc + 3) ls st (pN b n (uC f k (.inr (ci, updV F j v))) h0)) : V G M d bc bs Q pc ls (v :: .ref (b + k) :: st) (pN b n f h0) := by
  refine V_put dg fl ft fp ((pN_at hk).trans hh) (by omega) ?_
  rw [pN_put hk]
  exact kk
theorem P_putF {ci j : Nat} {F : Nat → Value} {v : Value} (dg : decode M.2.1 pc = .ok (.putfield idx, 3)) (fl : FL M.1.cls idx ci j) (ft : FT ci) (fp : FPF ci j v) (hin : M.1.name = "<init>") (hown : ∀ C T N, xcl[ci]? = some (C, T, N) → C = M.1.cls) (hk : k < n) (hh : f k = some (.inr (ci, F))) (hb : gB G ≤ b) (kk : V G M d bc bs Q (pc + 3) ls st (pN b n (uC f k (.inr (ci, updV F j v))) h0)) : V G M d bc bs Q pc ls (v :: .ref (b + k) :: st) (pN b n f h0) := by
  refine V_putF dg fl ft fp hin hown ((pN_at hk).trans hh) (by omega) ?_
  rw [pN_put hk]
  exact kk
theorem fpFR {ci j N a : Nat} {C : String} {T : u_T} {ty : FieldType} (hc : xcl[ci]? = some (C, T, N)) (hf : (T j).2.2.2 = true) (hd : parseFieldDescriptor (T j).2.2.1 = some ty) (hn : narrow ty (.ref a) = .ref a) (hi : fits ty (.ref a) = true) : FPF ci j (.ref a) := fun C' T' N' h' => by
  cases (hc.symm.trans h')
  exact ⟨hf, _, hd, hn, hi⟩
theorem ownX {ci N : Nat} {C : String} {T : u_T} (hc : xcl[ci]? = some (C, T, N)) : ∀ C' T' N', xcl[ci]? = some (C', T', N') → C' = C := fun C' T' N' h' => by
  cases (hc.symm.trans h')
  rfl
theorem P_cIN (dg : decode M.2.1 pc = .ok (.invokespecial idx, 3)) (cs : CIN M.1.cls idx M' 0) (hV : VM G M' d' mc ms [.ref (b + k)] (xE none h1) h) (hlen : (lg_sl [.ref (b + k)]).length ≤ M'.2.2.1) (hd : d' + 1 ≤ d) (hr : (st.map fun v => v.category).sum ≤ 8) (kk : V G M d bc bs Q (pc + 3) ls st h1) : V G M d (bc + mc) (bs + ms) Q pc ls (.ref (b + k) :: st) h :=
  V_callIN dg cs hV rfl hlen rfl hd (bc' := bc) (bs' := bs) (by omega) (by omega) hr (fun v h' hq => by cases hq.1; cases hq.2; exact kk) (fun E h' hq => by cases hq.1)
theorem P_cI (dg : decode M.2.1 pc = .ok (.invokespecial idx, 3)) (cs : CI M.1.cls idx M' 0) (hV : VM G M' d' mc ms [.ref (b + k)] (xE none h1) h) (hlen : (lg_sl [.ref (b + k)]).length ≤ M'.2.2.1) (hd : d' + 1 ≤ d) (hr : (st.map fun v => v.category).sum ≤ 8) (kk : V G M d bc bs Q (pc + 3) ls st h1) : V G M d (bc + mc) (bs + ms) Q pc ls (.ref (b + k) :: st) h :=
  V_callI dg cs hV rfl hlen rfl hd (bc' := bc) (bs' := bs) (by omega) (by omega) hr (fun v h' hq => by cases hq.1; cases hq.2; exact kk) (fun E h' hq => by cases hq.1)
theorem P_cI1 {v1 : Value} (dg : decode M.2.1 pc = .ok (.invokespecial idx, 3)) (cs : CI M.1.cls idx M' 1) (hV : VM G M' d' mc ms [.ref (b + k), v1] (xE none h1) h) (hlen : (lg_sl [.ref (b + k), v1]).length ≤ M'.2.2.1) (hd : d' + 1 ≤ d) (hr : (st.map fun v => v.category).sum ≤ 8) (kk : V G M d bc bs Q (pc + 3) ls st h1) : V G M d (bc + mc) (bs + ms) Q pc ls (v1 :: .ref (b + k) :: st) h :=
  V_callI dg cs hV rfl hlen rfl hd (bc' := bc) (bs' := bs) (by omega) (by omega) hr (fun v h' hq => by cases hq.1; cases hq.2; exact kk) (fun E h' hq => by cases hq.1)
/-- a constructor's end: the object as its table tells it -/
theorem P_ret {ci N : Nat} {C : String} {T : u_T} {F F' : Nat → Value} (dg : decode M.2.1 pc = .ok (.return_, 1)) (hr : M.2.2.2.1 = none) (hk : k < n) (e : ∀ j, ¬ j = k → f j = g j) (ek : f k = some (.inr (ci, F))) (hc : xcl[ci]? = some (C, T, N)) (hF : ∀ j, j < N → F j = F' j) : V G M d bc bs (xE none (pN b n (uC g k (.inr (ci, F'))) h0)) pc ls [] (pN b n f h0) := by
  refine V_h (h' := pN b n (uC g k (.inr (ci, F'))) h0) (fun _ h => h) (fun a c' hc' => ?_) (V_vret dg hr ⟨rfl, rfl⟩)
  simp only [pN] at hc' ⊢
  by_cases q : b ≤ a ∧ a < b + n
  · rw [if_pos q] at hc' ⊢
    by_cases q2 : a - b = k
    · rw [q2] at hc' ⊢
      unfold uC at hc'
      rw [if_pos rfl] at hc'
      cases hc'
      exact ⟨_, ek, xAt_obj hc hF⟩
    · unfold uC at hc'
      rw [if_neg q2] at hc'
      exact ⟨c', by rw [e _ q2]; exact hc', fun _ h => h⟩
  · rw [if_neg q] at hc' ⊢
    exact ⟨c', hc', fun _ h => h⟩
end C0
