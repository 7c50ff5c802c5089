/-! ===== THE VIEW: cells by their addresses; a judgement V over it; a rule an instruction ===== -/
/-- a cell as it is seen: an array (kind of its elements, length and contents), or an object (number of its class, its fields) -/
abbrev xC : Type := (Nat × vp_A) ⊕ (Nat × (Nat → Value))
/-- the heap as it is seen; the next address, where it is known -/
abbrev xH : Type := (Nat → Option xC) × Option Nat
/-- launch, the first address of ours, the classes' numbers and slots, the array classes, where String constants lie, and their bytes -/
abbrev xG : Type := Launch × Nat × va_G × (Nat → ClassId) × (Nat → Nat) × (Nat → Nat)
def gL (G : xG) : Launch := G.1
def gB (G : xG) : Nat := G.2.1
def gD (G : xG) : va_G := G.2.2.1
def gC (G : xG) : Nat → ClassId := G.2.2.2.1
def gK (G : xG) : Nat → Nat := G.2.2.2.2.1
def gV (G : xG) : Nat → Nat := G.2.2.2.2.2
/-- a method: its name, its code, how many locals, what it returns, its table of handlers -/
abbrev xM : Type := MethodName × ByteArray × Nat × Option FieldType × List (Nat × Nat × Nat × Nat)
/-- what comes of a method: it returns a value, or throws -/
abbrev xR : Type := Option Value ⊕ String
def xcl : List vw_C := [(RX0, TX0, 3), (RX1, TX1, 5), (RX2, TX2, 5), (RX3, TX3, 4), (RX4, TX4, 3), (RX5, TX5, 4), (RX6, TX6, 2), (RX7, TX7, 11), (RX8, TX8, 8), (RX9, TX9, 7), (RX10, TX10, 8), (RX11, TX11, 12), (RX12, TX12, 57)]
def xtys (G : xG) : List (ClassId × FieldType) := [(gC G 0, .int), (gC G 1, .byte), (gC G 2, .boolean), (gC G 3, .long), (gC G 4, .object "java/lang/String")]
def xAt (G : xG) (a : Nat) (e : xC) (H : Heap) : Prop := match e with
  | .inl x => H[a]? = some (vp_cell (gC G x.1) x.2)
  | .inr o => ∃ r : vw_C, xcl[o.1]? = some r ∧ t_OB a ((gD G).1 o.1) r.2.2 ((gD G).2 o.1) H o.2
def xP (G : xG) (h : xH) (H : Heap) : Prop := (∀ (a : Nat) (e : xC), h.1 a = some e → xAt G a e H) ∧ ∀ n : Nat, h.2 = some n → H.size = n
/-- a cell is set -/
def xU (h : xH) (a : Nat) (e : xC) : xH := (fun q => if q = a then some e else h.1 q, h.2)
/-- a cell is made -/
def xN (h : xH) (a : Nat) (e : xC) : xH := (fun q => if q = a then some e else h.1 q, some (a + 1))
theorem xAt.kept {G : xG} {a : Nat} {e : xC} {H H1 : Heap} (h : xAt G a e H) (hq : H1[a]? = H[a]?) : xAt G a e H1 := by
  cases e with
  | inl x => exact hq.trans h
  | inr o =>
    obtain ⟨r, h1, h2⟩ := h
    exact ⟨r, h1, h2.kept hq⟩
theorem xAt.lt {G : xG} {a : Nat} {e : xC} {H : Heap} (h : xAt G a e H) : a < H.size := by
  cases e with
  | inl x => exact (Array.getElem?_eq_some_iff.mp h).1
  | inr o =>
    obtain ⟨r, h1, cell, h2, -⟩ := h
    exact (Array.getElem?_eq_some_iff.mp h2).1
theorem xP.set {G : xG} {h : xH} {H H1 : Heap} {a : Nat} {e : xC} (hP : xP G h H) (ha : xAt G a e H1) (hz : H1.size = H.size) (hq : ∀ q : Nat, q ≠ a → H1[q]? = H[q]?) : xP G (xU h a e) H1 := by
  refine ⟨fun q e2 he => ?_, fun n hn => hz.trans (hP.2 n hn)⟩
  by_cases hqa : q = a
  · subst hqa
    simp only [xU, if_pos] at he
    cases he
    exact ha
  · simp only [xU, if_neg hqa] at he
    exact (hP.1 q e2 he).kept (hq q hqa)
theorem xP.new {G : xG} {h : xH} {H H1 : Heap} {e : xC} (hP : xP G h H) (ha : xAt G H.size e H1) (hz : H1.size = H.size + 1) (hq : ∀ q : Nat, q < H.size → H1[q]? = H[q]?) : xP G (xN h H.size e) H1 := by
  refine ⟨fun q e2 he => ?_, fun n hn => ?_⟩
  · by_cases hqa : q = H.size
    · subst hqa
      simp only [xN, if_pos] at he
      cases he
      exact ha
    · simp only [xN, if_neg hqa] at he
      have h1 := hP.1 q e2 he
      exact h1.kept (hq q h1.lt)
  · simp only [xN] at hn
    cases hn
    exact hz
theorem xP.grow {G : xG} {f : Nat → Option xC} {n : Option Nat} {H H1 : Heap} (hP : xP G (f, n) H) (hq : ∀ q : Nat, q < H.size → H1[q]? = H[q]?) : xP G (f, none) H1 :=
  ⟨fun q e2 he => (hP.1 q e2 he).kept (hq q (hP.1 q e2 he).lt), fun n hn => by cases hn⟩
/-- links to private members of a nest mate -/
def xNestM : List (String × Nat × MethodName × String) := [("RiverIfs", 9, ⟨"RiverIfs$Reader", "<init>", "()V"⟩, "RiverIfs"), ("RiverIfs$Reader", 11, ⟨"RiverIfs$Tape", "<init>", "()V"⟩, "RiverIfs"), ("RiverIfs$Reader", 20, ⟨"RiverIfs$Shore", "<init>", "()V"⟩, "RiverIfs"), ("RiverIfs$Shore", 17, ⟨"RiverIfs$Ifs", "<init>", "()V"⟩, "RiverIfs"), ("RiverIfs$Shore", 24, ⟨"RiverIfs$Rule", "<init>", "()V"⟩, "RiverIfs"), ("RiverIfs", 18, ⟨"RiverIfs$State", "<init>", "()V"⟩, "RiverIfs"), ("RiverIfs", 25, ⟨"RiverIfs$Acts", "<init>", "()V"⟩, "RiverIfs"), ("RiverIfs", 32, ⟨"RiverIfs$Seen", "<init>", "()V"⟩, "RiverIfs"), ("RiverIfs", 43, ⟨"RiverIfs$Image", "<init>", "()V"⟩, "RiverIfs"), ("RiverIfs$Image", 11, ⟨"RiverIfs$State", "<init>", "()V"⟩, "RiverIfs"), ("RiverIfs$Image", 20, ⟨"RiverIfs$Acts", "<init>", "()V"⟩, "RiverIfs"), ("RiverIfs$Image", 27, ⟨"RiverIfs$Seen", "<init>", "()V"⟩, "RiverIfs"), ("RiverIfs", 50, ⟨"RiverIfs$Sets", "<init>", "()V"⟩, "RiverIfs"), ("RiverIfs", 67, ⟨"RiverIfs$Shore", "<init>", "()V"⟩, "RiverIfs"), ("RiverIfs$Walk", 11, ⟨"RiverIfs$State", "<init>", "()V"⟩, "RiverIfs"), ("RiverIfs$Ifs", 28, ⟨"RiverIfs", "isIn", "(II)Z"⟩, "RiverIfs"), ("RiverIfs$Shore", 65, ⟨"RiverIfs", "isIn", "(II)Z"⟩, "RiverIfs"), ("RiverIfs$Walk", 74, ⟨"RiverIfs", "isIn", "(II)Z"⟩, "RiverIfs"), ("RiverIfs$Reader", 93, ⟨"RiverIfs", "isIn", "(II)Z"⟩, "RiverIfs"), ("RiverIfs$Sets", 31, ⟨"RiverIfs", "isIn", "(II)Z"⟩, "RiverIfs"), ("RiverIfs$Seen", 25, ⟨"RiverIfs", "isIn", "(II)Z"⟩, "RiverIfs")]
def xNestF : List (String × Nat × String × String × String × String) := [("RiverIfs$State", 37, "RiverIfs$Shore", "hasFirst", "[I", "RiverIfs"), ("RiverIfs$State", 48, "RiverIfs$Shore", "missedFirst", "[I", "RiverIfs"), ("RiverIfs$State", 51, "RiverIfs$Shore", "longingFirst", "[I", "RiverIfs")]
/-- String constants: where they are named, their text, their bytes -/
def xStr : List (String × Nat × String × List Int32) := [("RiverIfs", 366, "a number out of its bounds", [97, 32, 110, 117, 109, 98, 101, 114, 32, 111, 117, 116, 32, 111, 102, 32, 105, 116, 115, 32, 98, 111, 117, 110, 100, 115]), ("RiverIfs$Tape", 54, ";()+-*/<=", [59, 40, 41, 43, 45, 42, 47, 60, 61]), ("RiverIfs$Reader", 47, "worth", [119, 111, 114, 116, 104]), ("RiverIfs$Reader", 56, "person", [112, 101, 114, 115, 111, 110]), ("RiverIfs$Reader", 61, "if", [105, 102]), ("RiverIfs$Reader", 67, "unless", [117, 110, 108, 101, 115, 115]), ("RiverIfs$Reader", 69, "bridge", [98, 114, 105, 100, 103, 101]), ("RiverIfs$Reader", 74, "crosses", [99, 114, 111, 115, 115, 101, 115]), ("RiverIfs$Reader", 188, "longing", [108, 111, 110, 103, 105, 110, 103]), ("RiverIfs$Reader", 190, "here", [104, 101, 114, 101]), ("RiverIfs$Reader", 192, "there", [116, 104, 101, 114, 101]), ("RiverIfs$Reader", 194, "spared", [115, 112, 97, 114, 101, 100]), ("RiverIfs$Reader", 196, "sunday", [115, 117, 110, 100, 97, 121]), ("RiverIfs$Reader", 198, "flowers", [102, 108, 111, 119, 101, 114, 115]), ("RiverIfs$Reader", 200, "last", [108, 97, 115, 116]), ("RiverIfs$Reader", 172, "not", [110, 111, 116]), ("RiverIfs$Reader", 174, "or", [111, 114]), ("RiverIfs$Reader", 176, "and", [97, 110, 100]), ("RiverIfs", 156, "no such count", [110, 111, 32, 115, 117, 99, 104, 32, 99, 111, 117, 110, 116]), ("RiverIfs", 358, "no such thing", [110, 111, 32, 115, 117, 99, 104, 32, 116, 104, 105, 110, 103]), ("RiverIfs", 360, "no such if", [110, 111, 32, 115, 117, 99, 104, 32, 105, 102]), ("RiverIfs", 186, "nothing such of an if", [110, 111, 116, 104, 105, 110, 103, 32, 115, 117, 99, 104, 32, 111, 102, 32, 97, 110, 32, 105, 102]), ("RiverIfs", 362, "no such person", [110, 111, 32, 115, 117, 99, 104, 32, 112, 101, 114, 115, 111, 110]), ("RiverIfs", 217, "nothing such of a person", [110, 111, 116, 104, 105, 110, 103, 32, 115, 117, 99, 104, 32, 111, 102, 32, 97, 32, 112, 101, 114, 115, 111, 110]), ("RiverIfs", 364, "no such what", [110, 111, 32, 115, 117, 99, 104, 32, 119, 104, 97, 116]), ("RiverIfs", 312, "a game is one of two", [97, 32, 103, 97, 109, 101, 32, 105, 115, 32, 111, 110, 101, 32, 111, 102, 32, 116, 119, 111]), ("RiverIfsModel", 11, "if", [105, 102]), ("RiverIfsModel", 13, "unless", [117, 110, 108, 101, 115, 115]), ("RiverIfsModel", 19, "longing", [108, 111, 110, 103, 105, 110, 103]), ("RiverIfsModel", 21, "here", [104, 101, 114, 101]), ("RiverIfsModel", 23, "there", [116, 104, 101, 114, 101]), ("RiverIfsModel", 25, "spared", [115, 112, 97, 114, 101, 100]), ("RiverIfsModel", 27, "sunday", [115, 117, 110, 100, 97, 121]), ("RiverIfsModel", 29, "flowers", [102, 108, 111, 119, 101, 114, 115]), ("RiverIfsModel", 31, "last", [108, 97, 115, 116]), ("RiverIfsModel", 270, "bridge", [98, 114, 105, 100, 103, 101]), ("RiverIfsModel", 272, "crosses", [99, 114, 111, 115, 115, 101, 115]), ("RiverIfsModel", 245, "not", [110, 111, 116]), ("RiverIfsModel", 253, "and", [97, 110, 100]), ("RiverIfsModel", 258, "or", [111, 114]), ("RiverIfsModel", 277, "worth", [119, 111, 114, 116, 104]), ("RiverIfsModel", 282, "person", [112, 101, 114, 115, 111, 110])]
/-- which class of exceptions is which, for catching them -/
def xCast : List Cond := [.castable "java/util/NoSuchElementException" "java/util/NoSuchElementException", .castable "java/lang/IllegalArgumentException" "java/lang/IllegalArgumentException", .declares ⟨"java/lang/RuntimeException", "<init>", "(Ljava/lang/String;)V"⟩, .declares ⟨"java/lang/Exception", "<init>", "(Ljava/lang/String;)V"⟩, .declares ⟨"java/lang/Throwable", "<init>", "(Ljava/lang/String;)V"⟩]
def xSA (G : xG) : Nat → Prop := fun q => gB G ≤ q
/-- what holds of a state, whatever the cells are -/
def xW (G : xG) (U : State) : Prop :=
  va_K (gD G) xcl (xtys G) U ∧ (∀ q ∈ xNestM, va_Nw (.methodLinkNest q.1 q.2.1 q.2.2.1 q.2.2.2) U) ∧ (∀ q ∈ xNestF, va_Nw (.fieldLinkNest q.1 q.2.1 q.2.2.1 q.2.2.2.1 q.2.2.2.2.1 q.2.2.2.2.2) U) ∧
  (∀ (i : Nat) (q : String × Nat × String × List Int32), xStr[i]? = some q → vk_R q.1 q.2.1 q.2.2.1 (gK G i) U ∧ va_O "java/lang/String" (gK G i) (xSA G) U U.heap ∧ va_OF "java/lang/String" "coder" "B" (.int 0) (gK G i) (xSA G) U U.heap ∧ va_OF "java/lang/String" "value" "[B" (.ref (gV G i)) (gK G i) (xSA G) U U.heap ∧ va_T .byte (gV G i) q.2.2.2.length (fun j => .int (q.2.2.2.getD j 0)) (xSA G) U U.heap) ∧
  va_Z "java/lang/String" "COMPACT_STRINGS" "Z" (.int 1) (xSA G) U U.heap ∧ vx_Zq Bundle.tN "UNASSIGNED_STACK" Bundle.steD (xSA G) U U.heap ∧ vx_Zq Bundle.tN "SUPPRESSED_SENTINEL" Bundle.listD (xSA G) U U.heap ∧ ((∀ w ∈ xCast, va_Nw w U) ∧ va_Nc "java/lang/IllegalArgumentException" "java/util/NoSuchElementException" U ∧ va_AO "java/lang/String" U ∧ vx_Zq "jdk/internal/util/Preconditions" "SIOOBE_FORMATTER" "Ljava/util/function/BiFunction;" (xSA G) U U.heap) ∧ (gL G).stackTraces = false ∧ gB G ≤ U.heap.size ∧ va_T .int (gV G 100) (gV G 101) (fun j => .int (nI (gV G (1000 + j)))) (xSA G) U U.heap
theorem xW.str {G : xG} {U : State} (h : xW G U) {i : Nat} {q : String × Nat × String × List Int32} (hi : xStr[i]? = some q) : vk_R q.1 q.2.1 q.2.2.1 (gK G i) U ∧ va_O "java/lang/String" (gK G i) (xSA G) U U.heap ∧ va_OF "java/lang/String" "coder" "B" (.int 0) (gK G i) (xSA G) U U.heap ∧ va_OF "java/lang/String" "value" "[B" (.ref (gV G i)) (gK G i) (xSA G) U U.heap ∧ va_T .byte (gV G i) q.2.2.2.length (fun j => .int (q.2.2.2.getD j 0)) (xSA G) U U.heap := h.2.2.2.1 i q hi
theorem xW.cs {G : xG} {U : State} (h : xW G U) : va_Z "java/lang/String" "COMPACT_STRINGS" "Z" (.int 1) (xSA G) U U.heap := h.2.2.2.2.1
theorem xW.zu {G : xG} {U : State} (h : xW G U) : vx_Zq Bundle.tN "UNASSIGNED_STACK" Bundle.steD (xSA G) U U.heap := h.2.2.2.2.2.1
theorem xW.zn {G : xG} {U : State} (h : xW G U) : vx_Zq Bundle.tN "SUPPRESSED_SENTINEL" Bundle.listD (xSA G) U U.heap := h.2.2.2.2.2.2.1
theorem xW.ca {G : xG} {U : State} (h : xW G U) : ∀ w ∈ xCast, va_Nw w U := h.2.2.2.2.2.2.2.1.1
theorem xW.nc {G : xG} {U : State} (h : xW G U) : va_Nc "java/lang/IllegalArgumentException" "java/util/NoSuchElementException" U := h.2.2.2.2.2.2.2.1.2.1
theorem xW.ao {G : xG} {U : State} (h : xW G U) : va_AO "java/lang/String" U := h.2.2.2.2.2.2.2.1.2.2.1
theorem xW.sf {G : xG} {U : State} (h : xW G U) : vx_Zq "jdk/internal/util/Preconditions" "SIOOBE_FORMATTER" "Ljava/util/function/BiFunction;" (xSA G) U U.heap := h.2.2.2.2.2.2.2.1.2.2.2
theorem xW.tr {G : xG} {U : State} (h : xW G U) : (gL G).stackTraces = false := h.2.2.2.2.2.2.2.2.1
theorem xW.bs {G : xG} {U : State} (h : xW G U) : gB G ≤ U.heap.size := h.2.2.2.2.2.2.2.2.2.1
/-- the script: its place, its length, its ints -/
theorem xW.sc {G : xG} {U : State} (h : xW G U) : va_T .int (gV G 100) (gV G 101) (fun j => .int (nI (gV G (1000 + j)))) (xSA G) U U.heap := h.2.2.2.2.2.2.2.2.2.2
theorem xCast_ok : ∀ w ∈ xCast, w.keepsCast = true ∧ w.onTables = true := by decide +kernel
theorem xW.go {G : xG} {s U : State} {locs : List Loc} (h : xW G s) (hW : s.WarmedH U.vm) (hS : va_S (xSA G) s.heap U.heap locs) : xW G U := by
  obtain ⟨h1, h2, h3, h4, h5, h6, h7, h10, h8, h9, h11⟩ := h
  have ha := hW.alike
  have hq : ∀ a : Nat, a < s.heap.size → ¬ xSA G a → U.heap[a]? = s.heap[a]? := hS.2.1
  refine ⟨va_K.moved ha h1, fun q hq => va_Nw.warmM hW (h2 q hq), fun q hq => va_Nw.warmF hW (h3 q hq), fun i q hi => ?_, (va_Z.moved ha h5).kept hq, (vx_Zq.moved ha h6).kept hq, (vx_Zq.moved ha h7).kept hq, ⟨fun w hw => va_tabs (xCast_ok w hw).2 (rfl : (s.setVm U.vm).vm = U.vm) (Cond.before_shiftedCast (State.Shifted.of_warmed hW) w (xCast_ok w hw).1 (h10.1 w hw)), va_Nc.moved ha h10.2.1, va_AO.moved ha h10.2.2.1, (vx_Zq.moved ha h10.2.2.2).kept hq⟩, h8, Nat.le_trans h9 hS.1, (va_T.moved ha h11).kept hq⟩
  obtain ⟨k1, k2, k3, k4, k5⟩ := h4 i q hi
  exact ⟨vk_R.warm hW k1, (va_O.moved ha k2).kept hq, (va_OF.moved ha k3).kept hq, (va_OF.moved ha k4).kept hq, (va_T.moved ha k5).kept hq⟩
theorem xW.same {G : xG} {s U : State} (h : xW G s) (hv : U.vm = s.vm) (hh : U.heap = s.heap) : xW G U := by
  obtain ⟨h1, h2, h3, h4, h5, h6, h7, h10, h8, h9, h11⟩ := h
  have ha : s.vm.Alike U.vm := by rw [hv]; exact Vm.Alike.refl _
  refine ⟨va_K.moved ha h1, fun q hq => va_Nw.same rfl hv.symm (h2 q hq), fun q hq => va_Nw.same rfl hv.symm (h3 q hq), fun i q hi => ?_, by rw [hh]; exact va_Z.moved ha h5, by rw [hh]; exact vx_Zq.moved ha h6, by rw [hh]; exact vx_Zq.moved ha h7, ⟨fun w hw => va_Nw.same (xCast_ok w hw).2 hv.symm (h10.1 w hw), va_Nc.moved ha h10.2.1, va_AO.moved ha h10.2.2.1, by rw [hh]; exact vx_Zq.moved ha h10.2.2.2⟩, h8, by rw [hh]; exact h9, by rw [hh]; exact va_T.moved ha h11⟩
  obtain ⟨k1, k2, k3, k4, k5⟩ := h4 i q hi
  rw [hh]
  exact ⟨vk_R.same hv k1, va_O.moved ha k2, va_OF.moved ha k3, va_OF.moved ha k4, va_T.moved ha k5⟩
/-- the locals, those that are known -/
def xLs (la : Array Slot) (n : Nat) (ls : List (Option Value)) : Prop := la.size = n ∧ lv_wf la ∧ ∀ (j : Nat) (v : Value), ls[j]? = some (some v) → la[j]? = some (.val v)
/-- where a body stands that is walked: d frames are left, and 64 words of each -/
def xCtx (G : xG) (M : xM) (d : Nat) (p : Program) (R : Room) (s : State) (m : MethodId) (args : Array Value) (meth : Method) (c : Code) : Prop :=
  p.tables.exec = Jvm.exec ∧ c.code = M.2.1 ∧ meth.sig.returnType = M.2.2.2.1 ∧ c.maxLocals = M.2.2.1 ∧ s.vm.findClass M.1.cls = some m.cls ∧ (∀ w ∈ lw_good, w.before args s = true) ∧ meth.locks = false ∧ meth.name = M.1.name ∧ c.exceptionTable.toList = tableOf M.2.2.2.2 ∧ d ≤ R.frames ∧ 64 * d ≤ R.locals ∧ xW G s
def xQ (G : xG) (Q : xR → xH → Prop) : Array Value → State → Outcome → State → Prop := fun _ st oc t => ∃ (v : Option Value) (h : xH), oc = .returned v ∧ Q (.inl v) h ∧ xP G h t.heap ∧ va_F (xSA G) st t
def xX (G : xG) (Q : xR → xH → Prop) : String → State → State → Prop := fun E st t => ∃ h : xH, Q (.inr E) h ∧ xP G h t.heap ∧ va_F (xSA G) st t
/-- THE JUDGEMENT: the method M, at pc with these locals and this stack over the heap h, with d frames left, bc cells and bs slots to make, comes to an end that is Q -/
def V (G : xG) (M : xM) (d bc bs : Nat) (Q : xR → xH → Prop) (pc : Nat) (ls : List (Option Value)) (st : List Value) (h : xH) : Prop :=
  ∀ (p : Program) (e : Env) (R : Room) (s : State) (m : MethodId) (args : Array Value) (below : List Frame) (meth : Method) (c : Code) (H : Heap) (locs : List Loc) (cells slots : Nat) (la : Array Slot),
    xCtx G M d p R s m args meth c → xP G h H → va_S (xSA G) s.heap H locs → xLs la M.2.2.1 ls → cells + bc ≤ R.cells → slots + bs ≤ R.slots →
    W p (gL G) e R s m args below meth c H locs cells slots (vx_MQ below (xQ G Q) (xX G Q) args s R.cells R.slots (xSA G)) (F0 m pc la st)
/-- .. and an exception of class E is thrown there -/
def VX (G : xG) (M : xM) (d bc bs : Nat) (Q : xR → xH → Prop) (pc : Nat) (ls : List (Option Value)) (E : String) (h : xH) : Prop :=
  ∀ (p : Program) (e : Env) (R : Room) (s : State) (m : MethodId) (args : Array Value) (below : List Frame) (meth : Method) (c : Code) (H : Heap) (locs : List Loc) (cells slots : Nat) (la : Array Slot) (st : List Value) (q : Addr) (ce : Cell),
    xCtx G M d p R s m args meth c → xP G h H → va_S (xSA G) s.heap H locs → xLs la M.2.2.1 ls → cells + bc ≤ R.cells → slots + bs ≤ R.slots → H[q]? = some ce → ce.vm = .none → s.vm.findClass E = some ce.cls →
    vx_W p (gL G) e R s m args below meth c H locs cells slots (vx_MQ below (xQ G Q) (xX G Q) args s R.cells R.slots (xSA G)) (F0 m pc la st) q
theorem xCtx.x {G M d p R s m args meth c} (C : xCtx G M d p R s m args meth c) : p.tables.exec = Jvm.exec := C.1
theorem xCtx.b {G M d p R s m args meth c} (C : xCtx G M d p R s m args meth c) : c.code = M.2.1 := C.2.1
theorem xCtx.r {G M d p R s m args meth c} (C : xCtx G M d p R s m args meth c) : meth.sig.returnType = M.2.2.2.1 := C.2.2.1
theorem xCtx.ml {G M d p R s m args meth c} (C : xCtx G M d p R s m args meth c) : c.maxLocals = M.2.2.1 := C.2.2.2.1
theorem xCtx.own {G M d p R s m args meth c} (C : xCtx G M d p R s m args meth c) : s.vm.findClass M.1.cls = some m.cls := C.2.2.2.2.1
theorem xCtx.ts {G M d p R s m args meth c} (C : xCtx G M d p R s m args meth c) : ∀ w ∈ lw_good, w.before args s = true := C.2.2.2.2.2.1
theorem xCtx.locks {G M d p R s m args meth c} (C : xCtx G M d p R s m args meth c) : meth.locks = false := C.2.2.2.2.2.2.1
theorem xCtx.nm {G M d p R s m args meth c} (C : xCtx G M d p R s m args meth c) : meth.name = M.1.name := C.2.2.2.2.2.2.2.1
theorem xCtx.tab {G M d p R s m args meth c} (C : xCtx G M d p R s m args meth c) : c.exceptionTable.toList = tableOf M.2.2.2.2 := C.2.2.2.2.2.2.2.2.1
theorem xCtx.fr {G M d p R s m args meth c} (C : xCtx G M d p R s m args meth c) : d ≤ R.frames := C.2.2.2.2.2.2.2.2.2.1
theorem xCtx.lo {G M d p R s m args meth c} (C : xCtx G M d p R s m args meth c) : 64 * d ≤ R.locals := C.2.2.2.2.2.2.2.2.2.2.1
theorem xCtx.w {G M d p R s m args meth c} (C : xCtx G M d p R s m args meth c) : xW G s := C.2.2.2.2.2.2.2.2.2.2.2
theorem xCtx.K {G M d p R s m args meth c} (C : xCtx G M d p R s m args meth c) : va_K (gD G) xcl (xtys G) s := C.w.1
section VR
variable {G : xG} {M : xM} {d bc bs : Nat} {Q : xR → xH → Prop} {pc : Nat} {ls : List (Option Value)} {st : List Value} {h : xH}
theorem V_iconst {n : Int} {v : Int32} (dg : decode M.2.1 pc = .ok (.iconst n, 1)) (hv : Int32.ofInt n = v) (k : V G M d bc bs Q (pc + 1) ls (.int v :: st) h) : V G M d bc bs Q pc ls st h := fun p e R s m args below meth c H locs cells slots la C hP hS hl h1 h2 =>
  lv_iconst C.x C.b dg hv (k p e R s m args below meth c H locs cells slots la C hP hS hl h1 h2)
theorem V_bipush {n : Int} {v : Int32} (dg : decode M.2.1 pc = .ok (.bipush n, 2)) (hv : (Int8.ofInt n).toInt32 = v) (k : V G M d bc bs Q (pc + 2) ls (.int v :: st) h) : V G M d bc bs Q pc ls st h := fun p e R s m args below meth c H locs cells slots la C hP hS hl h1 h2 =>
  lv_bipush C.x C.b dg hv (k p e R s m args below meth c H locs cells slots la C hP hS hl h1 h2)
theorem V_sipush {n : Int} {v : Int32} (dg : decode M.2.1 pc = .ok (.sipush n, 3)) (hv : (Int16.ofInt n).toInt32 = v) (k : V G M d bc bs Q (pc + 3) ls (.int v :: st) h) : V G M d bc bs Q pc ls st h := fun p e R s m args below meth c H locs cells slots la C hP hS hl h1 h2 =>
  lv_sipush C.x C.b dg hv (k p e R s m args below meth c H locs cells slots la C hP hS hl h1 h2)
theorem V_lconst {n : Fin 2} {v : Int64} (dg : decode M.2.1 pc = .ok (.lconst n, 1)) (hv : Int64.ofNat (n : Nat) = v) (k : V G M d bc bs Q (pc + 1) ls (.long v :: st) h) : V G M d bc bs Q pc ls st h := fun p e R s m args below meth c H locs cells slots la C hP hS hl h1 h2 =>
  lv_lconst C.x C.b dg hv (k p e R s m args below meth c H locs cells slots la C hP hS hl h1 h2)
theorem V_ldc {idx : Nat} {v : Int32} (dg : decode M.2.1 pc = .ok (.ldc idx, 2)) (hw : Cond.constant M.1.cls idx v ∈ lw_good) (k : V G M d bc bs Q (pc + 2) ls (.int v :: st) h) : V G M d bc bs Q pc ls st h := fun p e R s m args below meth c H locs cells slots la C hP hS hl h1 h2 =>
  lv_ldc C.x C.b C.own (C.ts _ hw) dg (k p e R s m args below meth c H locs cells slots la C hP hS hl h1 h2)
theorem V_ldcw {idx : Nat} {v : Int32} (dg : decode M.2.1 pc = .ok (.ldc_w idx, 3)) (hw : Cond.constant M.1.cls idx v ∈ lw_good) (k : V G M d bc bs Q (pc + 3) ls (.int v :: st) h) : V G M d bc bs Q pc ls st h := fun p e R s m args below meth c H locs cells slots la C hP hS hl h1 h2 =>
  lv_ldcw C.x C.b C.own (C.ts _ hw) dg (k p e R s m args below meth c H locs cells slots la C hP hS hl h1 h2)
theorem V_ldc2 {idx : Nat} {v : Int64} (dg : decode M.2.1 pc = .ok (.ldc2_w idx, 3)) (hw : Cond.constantLong M.1.cls idx v ∈ lw_good) (k : V G M d bc bs Q (pc + 3) ls (.long v :: st) h) : V G M d bc bs Q pc ls st h := fun p e R s m args below meth c H locs cells slots la C hP hS hl h1 h2 =>
  lv_ldc2 C.x C.b C.own (C.ts _ hw) dg (k p e R s m args below meth c H locs cells slots la C hP hS hl h1 h2)
theorem V_ldcS {idx i : Nat} {tx : String} {bs0 : List Int32} (dg : decode M.2.1 pc = .ok (.ldc idx, 2)) (hw : xStr[i]? = some (M.1.cls, idx, tx, bs0)) (k : V G M d bc bs Q (pc + 2) ls (.ref (gK G i) :: st) h) : V G M d bc bs Q pc ls st h := fun p e R s m args below meth c H locs cells slots la C hP hS hl h1 h2 =>
  va_ldcS C.x C.b C.own ((C.w.2.2.2.1 i _ hw).1) dg (k p e R s m args below meth c H locs cells slots la C hP hS hl h1 h2)
theorem V_iload_n {n : Fin 4} {i : Nat} {x : Int32} (dg : decode M.2.1 pc = .ok (.iload_n n, 1)) (hi : (n : Nat) = i) (hv : ls[i]? = some (some (.int x))) (k : V G M d bc bs Q (pc + 1) ls (.int x :: st) h) : V G M d bc bs Q pc ls st h := fun p e R s m args below meth c H locs cells slots la C hP hS hl h1 h2 =>
  lv_iload_n C.x C.b dg hi (hl.2.2 _ _ hv) (k p e R s m args below meth c H locs cells slots la C hP hS hl h1 h2)
theorem V_iload {i : Nat} {x : Int32} (dg : decode M.2.1 pc = .ok (.iload i, 2)) (hv : ls[i]? = some (some (.int x))) (k : V G M d bc bs Q (pc + 2) ls (.int x :: st) h) : V G M d bc bs Q pc ls st h := fun p e R s m args below meth c H locs cells slots la C hP hS hl h1 h2 =>
  lv_iload C.x C.b dg (hl.2.2 _ _ hv) (k p e R s m args below meth c H locs cells slots la C hP hS hl h1 h2)
theorem V_lload_n {n : Fin 4} {i : Nat} {x : Int64} (dg : decode M.2.1 pc = .ok (.lload_n n, 1)) (hi : (n : Nat) = i) (hv : ls[i]? = some (some (.long x))) (k : V G M d bc bs Q (pc + 1) ls (.long x :: st) h) : V G M d bc bs Q pc ls st h := fun p e R s m args below meth c H locs cells slots la C hP hS hl h1 h2 =>
  lv_lload_n C.x C.b dg hi (hl.2.2 _ _ hv) (k p e R s m args below meth c H locs cells slots la C hP hS hl h1 h2)
theorem V_lload {i : Nat} {x : Int64} (dg : decode M.2.1 pc = .ok (.lload i, 2)) (hv : ls[i]? = some (some (.long x))) (k : V G M d bc bs Q (pc + 2) ls (.long x :: st) h) : V G M d bc bs Q pc ls st h := fun p e R s m args below meth c H locs cells slots la C hP hS hl h1 h2 =>
  lv_lload C.x C.b dg (hl.2.2 _ _ hv) (k p e R s m args below meth c H locs cells slots la C hP hS hl h1 h2)
theorem V_aload_n {n : Fin 4} {i : Nat} {x : Nat} (dg : decode M.2.1 pc = .ok (.aload_n n, 1)) (hi : (n : Nat) = i) (hv : ls[i]? = some (some (.ref x))) (k : V G M d bc bs Q (pc + 1) ls (.ref x :: st) h) : V G M d bc bs Q pc ls st h := fun p e R s m args below meth c H locs cells slots la C hP hS hl h1 h2 =>
  lv_aload_n C.x C.b dg hi (hl.2.2 _ _ hv) (k p e R s m args below meth c H locs cells slots la C hP hS hl h1 h2)
theorem V_aload {i : Nat} {x : Nat} (dg : decode M.2.1 pc = .ok (.aload i, 2)) (hv : ls[i]? = some (some (.ref x))) (k : V G M d bc bs Q (pc + 2) ls (.ref x :: st) h) : V G M d bc bs Q pc ls st h := fun p e R s m args below meth c H locs cells slots la C hP hS hl h1 h2 =>
  lv_aload C.x C.b dg (hl.2.2 _ _ hv) (k p e R s m args below meth c H locs cells slots la C hP hS hl h1 h2)
theorem V_iadd {x y : Int32} (dg : decode M.2.1 pc = .ok (.iadd, 1)) (k : V G M d bc bs Q (pc + 1) ls (.int (x + y) :: st) h) : V G M d bc bs Q pc ls (.int y :: .int x :: st) h := fun p e R s m args below meth c H locs cells slots la C hP hS hl h1 h2 =>
  lv_iadd C.x C.b dg (k p e R s m args below meth c H locs cells slots la C hP hS hl h1 h2)
theorem V_isub {x y : Int32} (dg : decode M.2.1 pc = .ok (.isub, 1)) (k : V G M d bc bs Q (pc + 1) ls (.int (x - y) :: st) h) : V G M d bc bs Q pc ls (.int y :: .int x :: st) h := fun p e R s m args below meth c H locs cells slots la C hP hS hl h1 h2 =>
  lv_isub C.x C.b dg (k p e R s m args below meth c H locs cells slots la C hP hS hl h1 h2)
theorem V_imul {x y : Int32} (dg : decode M.2.1 pc = .ok (.imul, 1)) (k : V G M d bc bs Q (pc + 1) ls (.int (x * y) :: st) h) : V G M d bc bs Q pc ls (.int y :: .int x :: st) h := fun p e R s m args below meth c H locs cells slots la C hP hS hl h1 h2 =>
  lv_imul C.x C.b dg (k p e R s m args below meth c H locs cells slots la C hP hS hl h1 h2)
theorem V_iand {x y : Int32} (dg : decode M.2.1 pc = .ok (.iand, 1)) (k : V G M d bc bs Q (pc + 1) ls (.int (x &&& y) :: st) h) : V G M d bc bs Q pc ls (.int y :: .int x :: st) h := fun p e R s m args below meth c H locs cells slots la C hP hS hl h1 h2 =>
  lv_iand C.x C.b dg (k p e R s m args below meth c H locs cells slots la C hP hS hl h1 h2)
theorem V_ior {x y : Int32} (dg : decode M.2.1 pc = .ok (.ior, 1)) (k : V G M d bc bs Q (pc + 1) ls (.int (x ||| y) :: st) h) : V G M d bc bs Q pc ls (.int y :: .int x :: st) h := fun p e R s m args below meth c H locs cells slots la C hP hS hl h1 h2 =>
  lv_ior C.x C.b dg (k p e R s m args below meth c H locs cells slots la C hP hS hl h1 h2)
theorem V_ixor {x y : Int32} (dg : decode M.2.1 pc = .ok (.ixor, 1)) (k : V G M d bc bs Q (pc + 1) ls (.int (x ^^^ y) :: st) h) : V G M d bc bs Q pc ls (.int y :: .int x :: st) h := fun p e R s m args below meth c H locs cells slots la C hP hS hl h1 h2 =>
  lv_ixor C.x C.b dg (k p e R s m args below meth c H locs cells slots la C hP hS hl h1 h2)
theorem V_ishl {x y : Int32} (dg : decode M.2.1 pc = .ok (.ishl, 1)) (k : V G M d bc bs Q (pc + 1) ls (.int (x <<< (y &&& 31)) :: st) h) : V G M d bc bs Q pc ls (.int y :: .int x :: st) h := fun p e R s m args below meth c H locs cells slots la C hP hS hl h1 h2 =>
  lv_ishl C.x C.b dg (k p e R s m args below meth c H locs cells slots la C hP hS hl h1 h2)
theorem V_ishr {x y : Int32} (dg : decode M.2.1 pc = .ok (.ishr, 1)) (k : V G M d bc bs Q (pc + 1) ls (.int (x >>> (y &&& 31)) :: st) h) : V G M d bc bs Q pc ls (.int y :: .int x :: st) h := fun p e R s m args below meth c H locs cells slots la C hP hS hl h1 h2 =>
  lv_ishr C.x C.b dg (k p e R s m args below meth c H locs cells slots la C hP hS hl h1 h2)
theorem V_idiv {x y : Int32} (dg : decode M.2.1 pc = .ok (.idiv, 1)) (hne : ¬ y = 0) (k : V G M d bc bs Q (pc + 1) ls (.int (x / y) :: st) h) : V G M d bc bs Q pc ls (.int y :: .int x :: st) h := fun p e R s m args below meth c H locs cells slots la C hP hS hl h1 h2 =>
  lv_idiv C.x C.b dg hne (k p e R s m args below meth c H locs cells slots la C hP hS hl h1 h2)
theorem V_irem {x y : Int32} (dg : decode M.2.1 pc = .ok (.irem, 1)) (hne : ¬ y = 0) (k : V G M d bc bs Q (pc + 1) ls (.int (x - x / y * y) :: st) h) : V G M d bc bs Q pc ls (.int y :: .int x :: st) h := fun p e R s m args below meth c H locs cells slots la C hP hS hl h1 h2 =>
  lv_irem C.x C.b dg hne (k p e R s m args below meth c H locs cells slots la C hP hS hl h1 h2)
theorem V_iushr {x y v : Int32} (dg : decode M.2.1 pc = .ok (.iushr, 1)) (hv : (x.toUInt32 >>> (y.toUInt32 &&& Int32.toUInt32 31)).toInt32 = v) (k : V G M d bc bs Q (pc + 1) ls (.int v :: st) h) : V G M d bc bs Q pc ls (.int y :: .int x :: st) h := fun p e R s m args below meth c H locs cells slots la C hP hS hl h1 h2 =>
  lv_iushr C.x C.b dg hv (k p e R s m args below meth c H locs cells slots la C hP hS hl h1 h2)
theorem V_ineg {x : Int32} (dg : decode M.2.1 pc = .ok (.ineg, 1)) (k : V G M d bc bs Q (pc + 1) ls (.int (-x) :: st) h) : V G M d bc bs Q pc ls (.int x :: st) h := fun p e R s m args below meth c H locs cells slots la C hP hS hl h1 h2 =>
  lv_ineg C.x C.b dg (k p e R s m args below meth c H locs cells slots la C hP hS hl h1 h2)
theorem V_i2l {x : Int32} {v : Int64} (dg : decode M.2.1 pc = .ok (.i2l, 1)) (hv : x.toInt64 = v) (k : V G M d bc bs Q (pc + 1) ls (.long v :: st) h) : V G M d bc bs Q pc ls (.int x :: st) h := fun p e R s m args below meth c H locs cells slots la C hP hS hl h1 h2 =>
  lv_i2l C.x C.b dg hv (k p e R s m args below meth c H locs cells slots la C hP hS hl h1 h2)
theorem V_i2b {x v : Int32} (dg : decode M.2.1 pc = .ok (.i2b, 1)) (hv : x.toInt8.toInt32 = v) (k : V G M d bc bs Q (pc + 1) ls (.int v :: st) h) : V G M d bc bs Q pc ls (.int x :: st) h := fun p e R s m args below meth c H locs cells slots la C hP hS hl h1 h2 =>
  lv_i2b C.x C.b dg hv (k p e R s m args below meth c H locs cells slots la C hP hS hl h1 h2)
theorem V_i2c {x v : Int32} (dg : decode M.2.1 pc = .ok (.i2c, 1)) (hv : (x.toUInt32 % 65536).toInt32 = v) (k : V G M d bc bs Q (pc + 1) ls (.int v :: st) h) : V G M d bc bs Q pc ls (.int x :: st) h := fun p e R s m args below meth c H locs cells slots la C hP hS hl h1 h2 =>
  lv_i2c C.x C.b dg hv (k p e R s m args below meth c H locs cells slots la C hP hS hl h1 h2)
theorem V_lcmp {x y : Int64} (dg : decode M.2.1 pc = .ok (.lcmp, 1)) (k : V G M d bc bs Q (pc + 1) ls (.int (lg_cmp x y) :: st) h) : V G M d bc bs Q pc ls (.long y :: .long x :: st) h := fun p e R s m args below meth c H locs cells slots la C hP hS hl h1 h2 =>
  W.lcmp C.x C.b dg (k p e R s m args below meth c H locs cells slots la C hP hS hl h1 h2)
theorem V_dup {va : Value} (dg : decode M.2.1 pc = .ok (.dup, 1)) (hva : va.category = 1) (k : V G M d bc bs Q (pc + 1) ls (va :: va :: st) h) : V G M d bc bs Q pc ls (va :: st) h := fun p e R s m args below meth c H locs cells slots la C hP hS hl h1 h2 =>
  lv_dup C.x C.b dg hva (k p e R s m args below meth c H locs cells slots la C hP hS hl h1 h2)
theorem V_pop {va : Value} (dg : decode M.2.1 pc = .ok (.pop, 1)) (hva : va.category = 1) (k : V G M d bc bs Q (pc + 1) ls st h) : V G M d bc bs Q pc ls (va :: st) h := fun p e R s m args below meth c H locs cells slots la C hP hS hl h1 h2 =>
  lv_pop C.x C.b dg hva (k p e R s m args below meth c H locs cells slots la C hP hS hl h1 h2)
theorem V_dup2 {va vb : Value} (dg : decode M.2.1 pc = .ok (.dup2, 1)) (hva : va.category = 1) (hvb : vb.category = 1) (k : V G M d bc bs Q (pc + 1) ls (va :: vb :: va :: vb :: st) h) : V G M d bc bs Q pc ls (va :: vb :: st) h := fun p e R s m args below meth c H locs cells slots la C hP hS hl h1 h2 =>
  lv_dup2_11 C.x C.b dg hva hvb (k p e R s m args below meth c H locs cells slots la C hP hS hl h1 h2)
theorem V_goto {off : Int} (tgt : Nat) (dg : decode M.2.1 pc = .ok (.goto off, 3)) (ht : (pc : Int) + off = (tgt : Int)) (k : V G M d bc bs Q tgt ls st h) : V G M d bc bs Q pc ls st h := fun p e R s m args below meth c H locs cells slots la C hP hS hl h1 h2 =>
  lv_goto C.x C.b dg ht (k p e R s m args below meth c H locs cells slots la C hP hS hl h1 h2)
theorem V_if_eq {x : Int32} {off : Int} (tgt : Nat) (dg : decode M.2.1 pc = .ok (.ifCond .eq off, 3)) (ht : (pc : Int) + off = (tgt : Int)) (kt : x = 0 → V G M d bc bs Q tgt ls st h) (kf : ¬ x = 0 → V G M d bc bs Q (pc + 3) ls st h) : V G M d bc bs Q pc ls (.int x :: st) h := fun p e R s m args below meth c H locs cells slots la C hP hS hl h1 h2 =>
  lv_if_eq C.x C.b dg ht (fun q => kt q p e R s m args below meth c H locs cells slots la C hP hS hl h1 h2) (fun q => kf q p e R s m args below meth c H locs cells slots la C hP hS hl h1 h2)
theorem V_icmp_eq {x y : Int32} {off : Int} (tgt : Nat) (dg : decode M.2.1 pc = .ok (.if_icmp .eq off, 3)) (ht : (pc : Int) + off = (tgt : Int)) (kt : x = y → V G M d bc bs Q tgt ls st h) (kf : ¬ x = y → V G M d bc bs Q (pc + 3) ls st h) : V G M d bc bs Q pc ls (.int y :: .int x :: st) h := fun p e R s m args below meth c H locs cells slots la C hP hS hl h1 h2 =>
  lv_icmp_eq C.x C.b dg ht (fun q => kt q p e R s m args below meth c H locs cells slots la C hP hS hl h1 h2) (fun q => kf q p e R s m args below meth c H locs cells slots la C hP hS hl h1 h2)
theorem V_if_ne {x : Int32} {off : Int} (tgt : Nat) (dg : decode M.2.1 pc = .ok (.ifCond .ne off, 3)) (ht : (pc : Int) + off = (tgt : Int)) (kt : ¬ x = 0 → V G M d bc bs Q tgt ls st h) (kf : x = 0 → V G M d bc bs Q (pc + 3) ls st h) : V G M d bc bs Q pc ls (.int x :: st) h := fun p e R s m args below meth c H locs cells slots la C hP hS hl h1 h2 =>
  lv_if_ne C.x C.b dg ht (fun q => kt q p e R s m args below meth c H locs cells slots la C hP hS hl h1 h2) (fun q => kf q p e R s m args below meth c H locs cells slots la C hP hS hl h1 h2)
theorem V_icmp_ne {x y : Int32} {off : Int} (tgt : Nat) (dg : decode M.2.1 pc = .ok (.if_icmp .ne off, 3)) (ht : (pc : Int) + off = (tgt : Int)) (kt : ¬ x = y → V G M d bc bs Q tgt ls st h) (kf : x = y → V G M d bc bs Q (pc + 3) ls st h) : V G M d bc bs Q pc ls (.int y :: .int x :: st) h := fun p e R s m args below meth c H locs cells slots la C hP hS hl h1 h2 =>
  lv_icmp_ne C.x C.b dg ht (fun q => kt q p e R s m args below meth c H locs cells slots la C hP hS hl h1 h2) (fun q => kf q p e R s m args below meth c H locs cells slots la C hP hS hl h1 h2)
theorem V_if_lt {x : Int32} {off : Int} (tgt : Nat) (dg : decode M.2.1 pc = .ok (.ifCond .lt off, 3)) (ht : (pc : Int) + off = (tgt : Int)) (kt : x < 0 → V G M d bc bs Q tgt ls st h) (kf : ¬ x < 0 → V G M d bc bs Q (pc + 3) ls st h) : V G M d bc bs Q pc ls (.int x :: st) h := fun p e R s m args below meth c H locs cells slots la C hP hS hl h1 h2 =>
  lv_if_lt C.x C.b dg ht (fun q => kt q p e R s m args below meth c H locs cells slots la C hP hS hl h1 h2) (fun q => kf q p e R s m args below meth c H locs cells slots la C hP hS hl h1 h2)
theorem V_icmp_lt {x y : Int32} {off : Int} (tgt : Nat) (dg : decode M.2.1 pc = .ok (.if_icmp .lt off, 3)) (ht : (pc : Int) + off = (tgt : Int)) (kt : x < y → V G M d bc bs Q tgt ls st h) (kf : ¬ x < y → V G M d bc bs Q (pc + 3) ls st h) : V G M d bc bs Q pc ls (.int y :: .int x :: st) h := fun p e R s m args below meth c H locs cells slots la C hP hS hl h1 h2 =>
  lv_icmp_lt C.x C.b dg ht (fun q => kt q p e R s m args below meth c H locs cells slots la C hP hS hl h1 h2) (fun q => kf q p e R s m args below meth c H locs cells slots la C hP hS hl h1 h2)
theorem V_if_ge {x : Int32} {off : Int} (tgt : Nat) (dg : decode M.2.1 pc = .ok (.ifCond .ge off, 3)) (ht : (pc : Int) + off = (tgt : Int)) (kt : 0 ≤ x → V G M d bc bs Q tgt ls st h) (kf : ¬ 0 ≤ x → V G M d bc bs Q (pc + 3) ls st h) : V G M d bc bs Q pc ls (.int x :: st) h := fun p e R s m args below meth c H locs cells slots la C hP hS hl h1 h2 =>
  lv_if_ge C.x C.b dg ht (fun q => kt q p e R s m args below meth c H locs cells slots la C hP hS hl h1 h2) (fun q => kf q p e R s m args below meth c H locs cells slots la C hP hS hl h1 h2)
theorem V_icmp_ge {x y : Int32} {off : Int} (tgt : Nat) (dg : decode M.2.1 pc = .ok (.if_icmp .ge off, 3)) (ht : (pc : Int) + off = (tgt : Int)) (kt : y ≤ x → V G M d bc bs Q tgt ls st h) (kf : ¬ y ≤ x → V G M d bc bs Q (pc + 3) ls st h) : V G M d bc bs Q pc ls (.int y :: .int x :: st) h := fun p e R s m args below meth c H locs cells slots la C hP hS hl h1 h2 =>
  lv_icmp_ge C.x C.b dg ht (fun q => kt q p e R s m args below meth c H locs cells slots la C hP hS hl h1 h2) (fun q => kf q p e R s m args below meth c H locs cells slots la C hP hS hl h1 h2)
theorem V_if_gt {x : Int32} {off : Int} (tgt : Nat) (dg : decode M.2.1 pc = .ok (.ifCond .gt off, 3)) (ht : (pc : Int) + off = (tgt : Int)) (kt : 0 < x → V G M d bc bs Q tgt ls st h) (kf : ¬ 0 < x → V G M d bc bs Q (pc + 3) ls st h) : V G M d bc bs Q pc ls (.int x :: st) h := fun p e R s m args below meth c H locs cells slots la C hP hS hl h1 h2 =>
  lv_if_gt C.x C.b dg ht (fun q => kt q p e R s m args below meth c H locs cells slots la C hP hS hl h1 h2) (fun q => kf q p e R s m args below meth c H locs cells slots la C hP hS hl h1 h2)
theorem V_icmp_gt {x y : Int32} {off : Int} (tgt : Nat) (dg : decode M.2.1 pc = .ok (.if_icmp .gt off, 3)) (ht : (pc : Int) + off = (tgt : Int)) (kt : y < x → V G M d bc bs Q tgt ls st h) (kf : ¬ y < x → V G M d bc bs Q (pc + 3) ls st h) : V G M d bc bs Q pc ls (.int y :: .int x :: st) h := fun p e R s m args below meth c H locs cells slots la C hP hS hl h1 h2 =>
  lv_icmp_gt C.x C.b dg ht (fun q => kt q p e R s m args below meth c H locs cells slots la C hP hS hl h1 h2) (fun q => kf q p e R s m args below meth c H locs cells slots la C hP hS hl h1 h2)
theorem V_if_le {x : Int32} {off : Int} (tgt : Nat) (dg : decode M.2.1 pc = .ok (.ifCond .le off, 3)) (ht : (pc : Int) + off = (tgt : Int)) (kt : x ≤ 0 → V G M d bc bs Q tgt ls st h) (kf : ¬ x ≤ 0 → V G M d bc bs Q (pc + 3) ls st h) : V G M d bc bs Q pc ls (.int x :: st) h := fun p e R s m args below meth c H locs cells slots la C hP hS hl h1 h2 =>
  lv_if_le C.x C.b dg ht (fun q => kt q p e R s m args below meth c H locs cells slots la C hP hS hl h1 h2) (fun q => kf q p e R s m args below meth c H locs cells slots la C hP hS hl h1 h2)
theorem V_icmp_le {x y : Int32} {off : Int} (tgt : Nat) (dg : decode M.2.1 pc = .ok (.if_icmp .le off, 3)) (ht : (pc : Int) + off = (tgt : Int)) (kt : x ≤ y → V G M d bc bs Q tgt ls st h) (kf : ¬ x ≤ y → V G M d bc bs Q (pc + 3) ls st h) : V G M d bc bs Q pc ls (.int y :: .int x :: st) h := fun p e R s m args below meth c H locs cells slots la C hP hS hl h1 h2 =>
  lv_icmp_le C.x C.b dg ht (fun q => kt q p e R s m args below meth c H locs cells slots la C hP hS hl h1 h2) (fun q => kf q p e R s m args below meth c H locs cells slots la C hP hS hl h1 h2)
theorem V_tableIn {dflt lo hi : Int} {offs : Array Int} {len : Nat} {x : Int32} {off : Int} (tgt : Nat) (dg : decode M.2.1 pc = .ok (.tableswitch dflt lo hi offs, len)) (q1 : ¬ x.toInt < lo) (q2 : ¬ hi < x.toInt) (ho : offs[(x.toInt - lo).toNat]? = some off) (ht : (pc : Int) + off = (tgt : Int)) (k : V G M d bc bs Q tgt ls st h) : V G M d bc bs Q pc ls (.int x :: st) h := fun p e R s m args below meth c H locs cells slots la C hP hS hl h1 h2 =>
  lv_tableIn C.x C.b dg q1 q2 ho ht (k p e R s m args below meth c H locs cells slots la C hP hS hl h1 h2)
theorem V_tableOut {dflt lo hi : Int} {offs : Array Int} {len : Nat} {x : Int32} (tgt : Nat) (dg : decode M.2.1 pc = .ok (.tableswitch dflt lo hi offs, len)) (hq : x.toInt < lo ∨ hi < x.toInt) (ht : (pc : Int) + dflt = (tgt : Int)) (k : V G M d bc bs Q tgt ls st h) : V G M d bc bs Q pc ls (.int x :: st) h := fun p e R s m args below meth c H locs cells slots la C hP hS hl h1 h2 =>
  lv_tableOut C.x C.b dg hq ht (k p e R s m args below meth c H locs cells slots la C hP hS hl h1 h2)
/-- no long, no double among the known locals -/
def xNoL (ls : List (Option Value)) : Bool := ls.all fun o => match o with
  | some v => v.category == 1
  | none => true
theorem xLs.store {la : Array Slot} {n i : Nat} {v : Value} (hl : xLs la n ls) (hi : i < n) (hc : v.category = 1) (hn : xNoL ls = true) : ∃ la', storeLocals la i v = some la' ∧ xLs la' n (ls.set i (some v)) := by
  obtain ⟨a1, a2, a3⟩ := hl
  have b0 : lv_has la n ((List.range ls.length).filterMap (fun j => match ls[j]? with | some (some w) => some (j, w) | _ => none)) := by
    refine ⟨a1, a2, fun q hq => ?_⟩
    obtain ⟨j, -, hj⟩ := List.mem_filterMap.mp hq
    split at hj
    · next w hw =>
      cases hj
      exact a3 _ _ hw
    · cases hj
  obtain ⟨la', c1, c2, c3, c4⟩ := lv_store1 (v := v) b0 hi hc
  refine ⟨la', c1, c2, c3, fun j w hj => ?_⟩
  by_cases hji : j = i
  · subst hji
    have hlt : j < ls.length := by
      have := (List.getElem?_eq_some_iff.mp hj).1
      simpa using this
    rw [List.getElem?_set_self hlt] at hj
    cases hj
    exact c4 _ List.mem_cons_self
  · rw [List.getElem?_set_ne (fun q => hji q.symm)] at hj
    refine c4 (j, w) (List.mem_cons_of_mem _ (List.mem_filter.mpr ⟨List.mem_filterMap.mpr ⟨j, ?_, ?_⟩, ?_⟩))
    · exact List.mem_range.mpr (List.getElem?_eq_some_iff.mp hj).1
    · rw [hj]
    · have hw : w.category = 1 := by
        have h0 := List.all_eq_true.mp hn (some w) (List.mem_of_getElem? hj)
        simpa using h0
      simp [hji, hw]
theorem xLs.has {la : Array Slot} {n : Nat} (hl : xLs la n ls) : lv_has la n ((List.range ls.length).filterMap (fun j => match ls[j]? with | some (some w) => some (j, w) | _ => none)) := by
  obtain ⟨a1, a2, a3⟩ := hl
  refine ⟨a1, a2, fun q hq => ?_⟩
  obtain ⟨j, -, hj⟩ := List.mem_filterMap.mp hq
  split at hj
  · next w hw =>
    cases hj
    exact a3 _ _ hw
  · cases hj
theorem xLs.of_has {la : Array Slot} {n i : Nat} {v : Value} (hn : xNoL ls = true) (c : lv_has la n ((i, v) :: ((List.range ls.length).filterMap (fun j => match ls[j]? with | some (some w) => some (j, w) | _ => none)).filter (fun q => !(q.1 == i) && !(q.1 + 1 == i && q.2.category == 2)))) : xLs la n (ls.set i (some v)) := by
  obtain ⟨c2, c3, c4⟩ := c
  refine ⟨c2, c3, fun j w hj => ?_⟩
  by_cases hji : j = i
  · subst hji
    have hlt : j < ls.length := by
      have := (List.getElem?_eq_some_iff.mp hj).1
      simpa using this
    rw [List.getElem?_set_self hlt] at hj
    cases hj
    exact c4 _ List.mem_cons_self
  · rw [List.getElem?_set_ne (fun q => hji q.symm)] at hj
    refine c4 (j, w) (List.mem_cons_of_mem _ (List.mem_filter.mpr ⟨List.mem_filterMap.mpr ⟨j, ?_, ?_⟩, ?_⟩))
    · exact List.mem_range.mpr (List.getElem?_eq_some_iff.mp hj).1
    · rw [hj]
    · have hw : w.category = 1 := by
        have h0 := List.all_eq_true.mp hn (some w) (List.mem_of_getElem? hj)
        simpa using h0
      simp [hji, hw]
theorem V_istore_n {n : Fin 4} {i : Nat} {x : Int32} (dg : decode M.2.1 pc = .ok (.istore_n n, 1)) (hi : (n : Nat) = i) (hm : i < M.2.2.1) (hn : xNoL ls = true) (k : V G M d bc bs Q (pc + 1) (ls.set i (some (.int x))) st h) : V G M d bc bs Q pc ls (.int x :: st) h := by
  intro p e R s m args below meth c0 H locs cells slots la C hP hS hl h1 h2
  have b0 : lv_has la M.2.2.1 ((List.range ls.length).filterMap (fun j => match ls[j]? with | some (some w) => some (j, w) | _ => none)) := xLs.has hl
  refine lv_istore_n C.x C.b dg hi b0 hm rfl (fun la' c => ?_)
  exact k p e R s m args below meth c0 H locs cells slots la' C hP hS (xLs.of_has hn c) h1 h2
theorem V_istore {i : Nat} {x : Int32} (dg : decode M.2.1 pc = .ok (.istore i, 2)) (hm : i < M.2.2.1) (hn : xNoL ls = true) (k : V G M d bc bs Q (pc + 2) (ls.set i (some (.int x))) st h) : V G M d bc bs Q pc ls (.int x :: st) h := by
  intro p e R s m args below meth c0 H locs cells slots la C hP hS hl h1 h2
  have b0 : lv_has la M.2.2.1 ((List.range ls.length).filterMap (fun j => match ls[j]? with | some (some w) => some (j, w) | _ => none)) := xLs.has hl
  refine lv_istore C.x C.b dg b0 hm rfl (fun la' c => ?_)
  exact k p e R s m args below meth c0 H locs cells slots la' C hP hS (xLs.of_has hn c) h1 h2
theorem V_astore_n {n : Fin 4} {i : Nat} {x : Nat} (dg : decode M.2.1 pc = .ok (.astore_n n, 1)) (hi : (n : Nat) = i) (hm : i < M.2.2.1) (hn : xNoL ls = true) (k : V G M d bc bs Q (pc + 1) (ls.set i (some (.ref x))) st h) : V G M d bc bs Q pc ls (.ref x :: st) h := by
  intro p e R s m args below meth c0 H locs cells slots la C hP hS hl h1 h2
  have b0 : lv_has la M.2.2.1 ((List.range ls.length).filterMap (fun j => match ls[j]? with | some (some w) => some (j, w) | _ => none)) := xLs.has hl
  refine lv_astore_n C.x C.b dg hi b0 hm rfl (fun la' c => ?_)
  exact k p e R s m args below meth c0 H locs cells slots la' C hP hS (xLs.of_has hn c) h1 h2
theorem V_astore {i : Nat} {x : Nat} (dg : decode M.2.1 pc = .ok (.astore i, 2)) (hm : i < M.2.2.1) (hn : xNoL ls = true) (k : V G M d bc bs Q (pc + 2) (ls.set i (some (.ref x))) st h) : V G M d bc bs Q pc ls (.ref x :: st) h := by
  intro p e R s m args below meth c0 H locs cells slots la C hP hS hl h1 h2
  have b0 : lv_has la M.2.2.1 ((List.range ls.length).filterMap (fun j => match ls[j]? with | some (some w) => some (j, w) | _ => none)) := xLs.has hl
  refine lv_astore C.x C.b dg b0 hm rfl (fun la' c => ?_)
  exact k p e R s m args below meth c0 H locs cells slots la' C hP hS (xLs.of_has hn c) h1 h2
theorem xLs.idx {x : Value} {i : Nat} (hv : ls[i]? = some (some x)) : ∃ k : Nat, ((List.range ls.length).filterMap (fun j => match ls[j]? with | some (some w) => some (j, w) | _ => none))[k]? = some (i, x) := by
  refine List.getElem?_of_mem (List.mem_filterMap.mpr ⟨i, List.mem_range.mpr (List.getElem?_eq_some_iff.mp hv).1, ?_⟩)
  rw [hv]
theorem V_iinc {i : Nat} {n : Int} {x v : Int32} (dg : decode M.2.1 pc = .ok (.iinc i n, 3)) (hm : i < M.2.2.1) (hn : xNoL ls = true) (hv : ls[i]? = some (some (.int x))) (he : x + Int32.ofInt n = v) (k : V G M d bc bs Q (pc + 3) (ls.set i (some (.int v))) st h) : V G M d bc bs Q pc ls st h := by
  intro p e R s m args below meth c0 H locs cells slots la C hP hS hl h1 h2
  obtain ⟨kk, hk⟩ := xLs.idx hv
  refine lv_iinc C.x C.b dg (xLs.has hl) hk he hm rfl (fun la' c => ?_)
  exact k p e R s m args below meth c0 H locs cells slots la' C hP hS (xLs.of_has hn c) h1 h2
/-- fewer locals are known -/
theorem V_ls {ls' : List (Option Value)} (hs : ∀ (j : Nat) (v : Value), ls'[j]? = some (some v) → ls[j]? = some (some v)) (k : V G M d bc bs Q pc ls' st h) : V G M d bc bs Q pc ls st h := fun p e R s m args below meth c H locs cells slots la C hP hS hl h1 h2 =>
  k p e R s m args below meth c H locs cells slots la C hP hS ⟨hl.1, hl.2.1, fun j v hj => hl.2.2 j v (hs j v hj)⟩ h1 h2
/-- more cells and slots may be made -/
theorem V_more {bc' bs' : Nat} (hb : bc' ≤ bc) (hs : bs' ≤ bs) (k : V G M d bc' bs' Q pc ls st h) : V G M d bc bs Q pc ls st h := fun p e R s m args below meth c H locs cells slots la C hP hS hl h1 h2 =>
  k p e R s m args below meth c H locs cells slots la C hP hS hl (by omega) (by omega)
/-- more frames are left -/
theorem V_deep {d' : Nat} (hd : d' ≤ d) (k : V G M d' bc bs Q pc ls st h) : V G M d bc bs Q pc ls st h := fun p e R s m args below meth c H locs cells slots la C hP hS hl h1 h2 =>
  k p e R s m args below meth c H locs cells slots la ⟨C.1, C.2.1, C.2.2.1, C.2.2.2.1, C.2.2.2.2.1, C.2.2.2.2.2.1, C.2.2.2.2.2.2.1, C.2.2.2.2.2.2.2.1, C.2.2.2.2.2.2.2.2.1, Nat.le_trans hd C.fr, Nat.le_trans (Nat.mul_le_mul_left 64 hd) C.lo, C.w⟩ hP hS hl h1 h2
theorem vx_Q_mono {Qc Qc' : Array Value → State → Outcome → State → Prop} {XC XC' : String → State → State → Prop} {mc ms : Nat} {free : Addr → Prop} {below : List Frame} {a : Array Value} {s : State} (hq : ∀ o t, Qc a s o t → Qc' a s o t) (hx : ∀ E t, XC E s t → XC' E s t) (t : State) (k : vx_MQ below Qc XC a s mc ms free t) : vx_MQ below Qc' XC' a s mc ms free t := by
  obtain ⟨o, k1, k2, k3⟩ := k
  refine ⟨o, k1, k2, ?_⟩
  rcases k3 with ⟨k4, k5⟩ | ⟨q, k4, E, ce, L, k5, k6⟩
  · exact Or.inl ⟨hq o t k4, k5⟩
  · exact Or.inr ⟨q, k4, E, ce, L, hx E t k5, k6⟩
/-- a weaker end -/
theorem V_post {Q' : xR → xH → Prop} (hq : ∀ r h, Q' r h → Q r h) (k : V G M d bc bs Q' pc ls st h) : V G M d bc bs Q pc ls st h := by
  intro p e R s m args below meth c H locs cells slots la C hP hS hl h1 h2 T hT X
  obtain ⟨t, a1, a2⟩ := k p e R s m args below meth c H locs cells slots la C hP hS hl h1 h2 T hT X
  refine ⟨t, a1, vx_Q_mono (fun o t hz => ?_) (fun E t hz => ?_) t a2⟩
  · obtain ⟨v, h', z1, z2, z3, z4⟩ := hz
    exact ⟨v, h', z1, hq _ _ z2, z3, z4⟩
  · obtain ⟨h', z2, z3, z4⟩ := hz
    exact ⟨h', hq _ _ z2, z3, z4⟩
/-- a link to a field: class number ci, place k -/
def FL (own : String) (idx ci k : Nat) : Prop := ∃ (C : String) (T : u_T) (N : Nat), xcl[ci]? = some (C, T, N) ∧ k < N ∧ (∀ w ∈ u_ws C T N, w ∈ lw_good) ∧ Cond.fieldLink own idx C (T k).2.1 (T k).2.2.1 ∈ lw_good ∧ (T k).1 = C
theorem xAt.P {a : Nat} {H : Heap} {t n : Nat} {x : vp_A} (hx : xAt G a (.inl (t, x)) H) : va_P (gD G) xcl [(a, .inl (gC G t, x))] H := by
  intro k q hk
  have hz : k < 1 := (List.getElem?_eq_some_iff.mp hk).1
  rw [show k = 0 by omega] at hk
  cases hk
  exact hx
theorem V_get {idx ci k a : Nat} {F : Nat → Value} {v : Value} (dg : decode M.2.1 pc = .ok (.getfield idx, 3)) (fl : FL M.1.cls idx ci k) (hh : h.1 a = some (.inr (ci, F))) (hv : F k = v) (kk : V G M d bc bs Q (pc + 3) ls (v :: st) h) : V G M d bc bs Q pc ls (.ref a :: st) h := by
  intro p e R s m args below meth c H locs cells slots la C hP hS hl h1 h2
  obtain ⟨CC, T, N, f1, f2, f3, f4, f5⟩ := fl
  obtain ⟨r, g1, cell, q1, q2, q3, q4⟩ := hP.1 _ _ hh
  have hr : r = (CC, T, N) := Option.some.inj (g1.symm.trans f1)
  subst hr
  obtain ⟨hS', hfc, kC, hkC, hkind⟩ := C.K.1 ci _ f1
  obtain ⟨cf, kf, fi, f, hi, hsl⟩ := hS' k f2
  refine W.getf C.x C.b C.own (C.ts _ f4) (by rw [← f5]; exact hi) (u_facts hfc hkC (u_lays C.ts f3 f2) hi).1 q1 (by rw [q3]; exact fun h => by cases h) (v := v) ?_ rfl rfl dg (kk p e R s m args below meth c H locs cells slots la C hP hS hl h1 h2)
  rw [hsl, q4 k f2, ← hv]
end VR
