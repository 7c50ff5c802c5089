/-! ===== Strings: the constants, length, charAt, indexOf ===== -/
section Str
variable {G : xG} {M M' : xM} {d d' bc bs bc' bs' mc ms : Nat} {Q Q' : xR → xH → Prop} {pc idx n i : Nat} {ls : List (Option Value)} {st As rest : List Value} {h h1 : xH} {q : String × Nat × String × List Int32}
theorem w_sval : Cond.fieldLink RJ0 9 "java/lang/String" "value" "[B" ∈ lw_good := lw_t (i := 1986) (by decide +kernel) (by decide +kernel)
theorem w_scod : Cond.fieldLink RJ0 15 "java/lang/String" "coder" "B" ∈ lw_good := lw_t (i := 1985) (by decide +kernel) (by decide +kernel)
theorem w_cs : Cond.fieldLink RJ0 38 "java/lang/String" "COMPACT_STRINGS" "Z" ∈ lw_good := lw_t (i := 707) (by decide +kernel) (by decide +kernel)
theorem w_sf : Cond.fieldLink RJ0 1053 "jdk/internal/util/Preconditions" "SIOOBE_FORMATTER" "Ljava/util/function/BiFunction;" ∈ lw_good := lw_t (i := 746) (by decide +kernel) (by decide +kernel)
theorem V_sval (dg : decode M.2.1 pc = .ok (.getfield idx, 3)) (hi : xStr[i]? = some q) (hw : Cond.fieldLink M.1.cls idx "java/lang/String" "value" "[B" ∈ lw_good) (k : V G M d bc bs Q (pc + 3) ls (.ref (gV G i) :: st) h) : V G M d bc bs Q pc ls (.ref (gK G i) :: st) h := fun p e R s m args below meth c H locs cells slots la C hP hS hl h1 h2 =>
  vk_getf C.x C.b (C.w.str hi).2.2.2.1 hS C.own (C.ts _ hw) (fun _ hx => hx) dg (k p e R s m args below meth c H locs cells slots la C hP hS hl h1 h2)
theorem V_scod (dg : decode M.2.1 pc = .ok (.getfield idx, 3)) (hi : xStr[i]? = some q) (hw : Cond.fieldLink M.1.cls idx "java/lang/String" "coder" "B" ∈ lw_good) (k : V G M d bc bs Q (pc + 3) ls (.int 0 :: st) h) : V G M d bc bs Q pc ls (.ref (gK G i) :: st) h := fun p e R s m args below meth c H locs cells slots la C hP hS hl h1 h2 =>
  vk_getf C.x C.b (C.w.str hi).2.2.1 hS C.own (C.ts _ hw) (fun _ hx => hx) dg (k p e R s m args below meth c H locs cells slots la C hP hS hl h1 h2)
theorem V_slen (dg : decode M.2.1 pc = .ok (.arraylength, 1)) (hi : xStr[i]? = some q) (k : V G M d bc bs Q (pc + 1) ls (.int (nI q.2.2.2.length) :: st) h) : V G M d bc bs Q pc ls (.ref (gV G i) :: st) h := fun p e R s m args below meth c H locs cells slots la C hP hS hl h1 h2 =>
  va_tlen C.x C.b (C.w.str hi).2.2.2.2 hS rfl dg (k p e R s m args below meth c H locs cells slots la C hP hS hl h1 h2)
theorem V_sbal0 {x : Int32} (dg : decode M.2.1 pc = .ok (.baload, 1)) (hi : xStr[i]? = some q) (hin : vp_in x q.2.2.2.length) (k : V G M d bc bs Q (pc + 1) ls (.int (q.2.2.2.getD x.toNatClampNeg 0) :: st) h) : V G M d bc bs Q pc ls (.int x :: .ref (gV G i) :: st) h := fun p e R s m args below meth c H locs cells slots la C hP hS hl h1 h2 =>
  va_tb C.x C.b (C.w.str hi).2.2.2.2 hS hin rfl dg (k p e R s m args below meth c H locs cells slots la C hP hS hl h1 h2)
/-- the constants are of ASCII, and short -/
theorem xStr_ok : ∀ q ∈ xStr, q.2.2.2.length < 64 ∧ ∀ x ∈ q.2.2.2, (((x &&& 255).toUInt32 % 65536).toInt32 = x ∧ narrow .char (.int x) = .int x ∧ x.toInt8.toInt32 = x) := by decide +kernel
theorem xStr_len (hi : xStr[i]? = some q) : q.2.2.2.length < 64 := (xStr_ok q (List.mem_of_getElem? hi)).1
theorem V_sbal {x : Int32} {j : Nat} (dg : decode M.2.1 pc = .ok (.baload, 1)) (hi : xStr[i]? = some q) (hx : x = nI j) (hj : j < q.2.2.2.length) (k : V G M d bc bs Q (pc + 1) ls (.int (q.2.2.2.getD j 0) :: st) h) : V G M d bc bs Q pc ls (.int x :: .ref (gV G i) :: st) h := by
  have hl := xStr_len hi
  subst hx
  refine V_sbal0 dg hi (vp_in_nI hj (by omega)) ?_
  rw [nI_clamp (by omega)]
  exact k
theorem V_cs (dg : decode M.2.1 pc = .ok (.getstatic idx, 3)) (hw : Cond.fieldLink M.1.cls idx "java/lang/String" "COMPACT_STRINGS" "Z" ∈ lw_good) (k : V G M d bc bs Q (pc + 3) ls (.int 1 :: st) h) : V G M d bc bs Q pc ls st h := fun p e R s m args below meth c H locs cells slots la C hP hS hl h1 h2 =>
  va_gets C.x C.b C.w.cs hS C.own (C.ts _ hw) (fun _ hx => hx) dg (k p e R s m args below meth c H locs cells slots la C hP hS hl h1 h2)
theorem V_sf (dg : decode M.2.1 pc = .ok (.getstatic idx, 3)) (hw : Cond.fieldLink M.1.cls idx "jdk/internal/util/Preconditions" "SIOOBE_FORMATTER" "Ljava/util/function/BiFunction;" ∈ lw_good) (k0 : V G M d bc bs Q (pc + 3) ls (.null :: st) h) (k : ∀ t : Nat, V G M d bc bs Q (pc + 3) ls (.ref t :: st) h) : V G M d bc bs Q pc ls st h := fun p e R s m args below meth c H locs cells slots la C hP hS hl h1 h2 =>
  C.w.sf.1.elim (fun z => va_gets C.x C.b z hS C.own (C.ts _ hw) (fun _ hx => hx) dg (k0 p e R s m args below meth c H locs cells slots la C hP hS hl h1 h2)) (fun ⟨t, z⟩ => va_gets C.x C.b z hS C.own (C.ts _ hw) (fun _ hx => hx) dg (k t p e R s m args below meth c H locs cells slots la C hP hS hl h1 h2))
/-- a call on a constant -/
def CVs (own : String) (idx : Nat) (M' : xM) (n : Nat) : Prop := CM own idx M' n ∧ Cond.methodLink own idx M'.1 ∈ lw_good ∧ Cond.instanceMethod M'.1 ∈ lw_good ∧ Cond.selects "java/lang/String" M'.1 M'.1 ∈ lw_good
theorem V_callVs (dg : decode M.2.1 pc = .ok (.invokevirtual idx, 3)) (cs : CVs M.1.cls idx M' n) (hi : xStr[i]? = some q) (hV : V G M' d' mc ms Q' 0 (xEnt (.ref (gK G i) :: As) M'.2.2.1) [] h) (hn : As.length = n) (hlen : (lg_sl (.ref (gK G i) :: As)).length ≤ M'.2.2.1) (hst : st = As.reverse ++ .ref (gK G i) :: rest) (hd : d' + 1 ≤ d) (hbc : mc + bc' ≤ bc) (hbs : ms + bs' ≤ bs) (hr : (rest.map fun v => v.category).sum ≤ 8)
    (k : ∀ (v : Option Value) (h' : xH), Q' (.inl v) h' → V G M d bc' bs' Q (pc + 3) ls (v.toList ++ rest) h') (kx : ∀ (E : String) (h' : xH), Q' (.inr E) h' → VX G M d bc' bs' Q pc ls E h') : V G M d bc bs Q pc ls st h := by
  intro p e R s m args below meth c H locs cells slots la C hP hS hl h1 h2
  obtain ⟨cm, w1, w2, w3⟩ := cs
  obtain ⟨cell, q1, q3, q4, -⟩ := (C.w.str hi).2.1.kept hS.2.1
  exact V_run C hS hl h1 h2 (vx_runV C.fix (xMet cm.1.1 cm.1.2.1 hlen hV) ⟨callB_of n C.ts cm.good rfl rfl rfl (C.ts _ cm.2.1.2) (C.ts _ w1) cm.2.2 (C.room hd cm.1.2.2), C.ts _ w2, C.ts _ w3⟩ ⟨(C.pre (As := .ref (gK G i) :: As) hP hS).1, ⟨cell, q1, q3, q4⟩, (C.pre (As := .ref (gK G i) :: As) hP hS).2⟩ rfl hn hl.1 hst (lv_room hr) dg ⟨by omega, by omega⟩) hbc hbs k kx
theorem V_s0 {r : Int32} (dg : decode M.2.1 pc = .ok (.invokevirtual idx, 3)) (cs : CVs M.1.cls idx M' 0) (hi : xStr[i]? = some q) (hV : VM G M' d' 0 0 [.ref (gK G i)] (xE (some (.int r)) h1) h) (hlen : (lg_sl [.ref (gK G i)]).length ≤ M'.2.2.1) (hd : d' + 1 ≤ d) (hr : (st.map fun v => v.category).sum ≤ 8) (k : V G M d bc bs Q (pc + 3) ls (.int r :: st) h1) : V G M d bc bs Q pc ls (.ref (gK G i) :: st) h :=
  V_callVs (As := []) dg cs hi hV rfl hlen rfl hd (bc' := bc) (bs' := bs) (by omega) (by omega) hr (fun v h' hq => by cases hq.1; cases hq.2; exact k) (fun E h' hq => by cases hq.1)
theorem V_s1 {r : Int32} {v1 : Value} (dg : decode M.2.1 pc = .ok (.invokevirtual idx, 3)) (cs : CVs M.1.cls idx M' 1) (hi : xStr[i]? = some q) (hV : VM G M' d' 0 0 [.ref (gK G i), v1] (xE (some (.int r)) h1) h) (hlen : (lg_sl [.ref (gK G i), v1]).length ≤ M'.2.2.1) (hd : d' + 1 ≤ d) (hr : (st.map fun v => v.category).sum ≤ 8) (k : V G M d bc bs Q (pc + 3) ls (.int r :: st) h1) : V G M d bc bs Q pc ls (v1 :: .ref (gK G i) :: st) h :=
  V_callVs (As := [v1]) dg cs hi hV rfl hlen rfl hd (bc' := bc) (bs' := bs) (by omega) (by omega) hr (fun v h' hq => by cases hq.1; cases hq.2; exact k) (fun E h' hq => by cases hq.1)
theorem V_s2 {r : Int32} {v1 v2 : Value} (dg : decode M.2.1 pc = .ok (.invokevirtual idx, 3)) (cs : CVs M.1.cls idx M' 2) (hi : xStr[i]? = some q) (hV : VM G M' d' 0 0 [.ref (gK G i), v1, v2] (xE (some (.int r)) h1) h) (hlen : (lg_sl [.ref (gK G i), v1, v2]).length ≤ M'.2.2.1) (hd : d' + 1 ≤ d) (hr : (st.map fun v => v.category).sum ≤ 8) (k : V G M d bc bs Q (pc + 3) ls (.int r :: st) h1) : V G M d bc bs Q pc ls (v2 :: v1 :: .ref (gK G i) :: st) h :=
  V_callVs (As := [v1, v2]) dg cs hi hV rfl hlen rfl hd (bc' := bc) (bs' := bs) (by omega) (by omega) hr (fun v h' hq => by cases hq.1; cases hq.2; exact k) (fun E h' hq => by cases hq.1)
theorem VE_nret {v r : Int32} {ty : FieldType} (dg : decode M.2.1 pc = .ok (.ireturn, 1)) (hr : M.2.2.2.1 = some ty) (hv : narrow ty (.int v) = .int v) (he : v = r) (hh : h = h1) : V G M d bc bs (xE (some (.int r)) h1) pc ls [.int v] h := by
  subst he; subst hh
  exact V_zret dg hr hv ⟨rfl, rfl⟩
theorem sJ0_335 : CVs RJ0 335 mJ0_coder_7d493 0 := ⟨cmJ0_coder_7d493 _ _, lw_t (i := 713) (by decide +kernel) (by decide +kernel), lw_t (i := 714) (by decide +kernel) (by decide +kernel), lw_t (i := 715) (by decide +kernel) (by decide +kernel)⟩
theorem sJ0_492 : CVs RJ0 492 mJ0_isLatin1_aae02 0 := ⟨cmJ0_isLatin1_aae02 _ _, lw_t (i := 703) (by decide +kernel) (by decide +kernel), lw_t (i := 704) (by decide +kernel) (by decide +kernel), lw_t (i := 705) (by decide +kernel) (by decide +kernel)⟩
theorem sJ0_505 : CVs RJ0 505 mJ0_length_8abf5 0 := ⟨cmJ0_length_8abf5 _ _, lw_t (i := 709) (by decide +kernel) (by decide +kernel), lw_t (i := 710) (by decide +kernel) (by decide +kernel), lw_t (i := 711) (by decide +kernel) (by decide +kernel)⟩
theorem sJ0_633 : CVs RJ0 633 mJ0_indexOf_7cf53 2 := ⟨cmJ0_indexOf_7cf53 _ _, lw_t (i := 699) (by decide +kernel) (by decide +kernel), lw_t (i := 700) (by decide +kernel) (by decide +kernel), lw_t (i := 701) (by decide +kernel) (by decide +kernel)⟩
theorem sX9_56 : CVs RX9 56 mJ0_indexOf_0f7a4 1 := ⟨cmJ0_indexOf_0f7a4 _ _, lw_t (i := 695) (by decide +kernel) (by decide +kernel), lw_t (i := 696) (by decide +kernel) (by decide +kernel), lw_t (i := 697) (by decide +kernel) (by decide +kernel)⟩
theorem sX9_61 : CVs RX9 61 mJ0_length_8abf5 0 := ⟨cmJ0_length_8abf5 _ _, lw_t (i := 786) (by decide +kernel) (by decide +kernel), lw_t (i := 710) (by decide +kernel) (by decide +kernel), lw_t (i := 711) (by decide +kernel) (by decide +kernel)⟩
theorem sX9_64 : CVs RX9 64 mJ0_charAt_5068e 1 := ⟨cmJ0_charAt_5068e _ _, lw_t (i := 787) (by decide +kernel) (by decide +kernel), lw_t (i := 788) (by decide +kernel) (by decide +kernel), lw_t (i := 789) (by decide +kernel) (by decide +kernel)⟩
theorem sX12_198 : CVs RX12 198 mJ0_length_8abf5 0 := ⟨cmJ0_length_8abf5 _ _, lw_t (i := 1561) (by decide +kernel) (by decide +kernel), lw_t (i := 710) (by decide +kernel) (by decide +kernel), lw_t (i := 711) (by decide +kernel) (by decide +kernel)⟩
theorem sX12_202 : CVs RX12 202 mJ0_charAt_5068e 1 := ⟨cmJ0_charAt_5068e _ _, lw_t (i := 1562) (by decide +kernel) (by decide +kernel), lw_t (i := 788) (by decide +kernel) (by decide +kernel), lw_t (i := 789) (by decide +kernel) (by decide +kernel)⟩
theorem J0_coder (hi : xStr[i]? = some q) : VM G mJ0_coder_7d493 d 0 0 [.ref (gK G i)] (xE (some (.int 0)) h) h := by
  refine VM_start (ls := [some (.ref (gK G i))]) rfl ?_
  -- %m J0_coder_7d493
  refine V_cs (pc := 0) dJ0_coder_7d493_0 w_cs ?_
  refine V_if_eq (pc := 3) 13 dJ0_coder_7d493_3 rfl (fun c3 => ?_) (fun c3 => ?_)
  · exact absurd c3 (by decide)
  · refine V_aload_n (pc := 6) (i := 0) dJ0_coder_7d493_6 rfl rfl ?_
    refine V_scod (pc := 7) dJ0_coder_7d493_7 (by assumption) w_scod ?_
    refine V_goto (pc := 10) 14 dJ0_coder_7d493_10 rfl ?_
    exact VE_nret (pc := 14) dJ0_coder_7d493_14 rfl rfl rfl rfl
theorem J0_isLatin1 (hi : xStr[i]? = some q) : VM G mJ0_isLatin1_aae02 d 0 0 [.ref (gK G i)] (xE (some (.int 1)) h) h := by
  refine VM_start (ls := [some (.ref (gK G i))]) rfl ?_
  -- %m J0_isLatin1_aae02
  refine V_cs (pc := 0) dJ0_isLatin1_aae02_0 w_cs ?_
  refine V_if_eq (pc := 3) 17 dJ0_isLatin1_aae02_3 rfl (fun c3 => ?_) (fun c3 => ?_)
  · exact absurd c3 (by decide)
  · refine V_aload_n (pc := 6) (i := 0) dJ0_isLatin1_aae02_6 rfl rfl ?_
    refine V_scod (pc := 7) dJ0_isLatin1_aae02_7 (by assumption) w_scod ?_
    refine V_if_ne (pc := 10) 17 dJ0_isLatin1_aae02_10 rfl (fun c10 => ?_) (fun c10 => ?_)
    · exact absurd rfl c10
    · refine V_iconst (pc := 13) (v := 1) dJ0_isLatin1_aae02_13 (by decide) ?_
      refine V_goto (pc := 14) 18 dJ0_isLatin1_aae02_14 rfl ?_
      exact VE_zret (pc := 18) dJ0_isLatin1_aae02_18 rfl (Or.inr rfl) rfl rfl
theorem shr0 (x : Int32) : x >>> ((0 : Int32) &&& 31) = x := by
  refine b_ext fun j hj => ?_
  rw [show ((0 : Int32) &&& 31) = nI 0 &&& 31 from rfl, b_sshr 0 (by decide) x hj, Nat.zero_add, if_pos hj]
theorem J0_length (hi : xStr[i]? = some q) (hd : 1 ≤ d) : VM G mJ0_length_8abf5 d 0 0 [.ref (gK G i)] (xE (some (.int (nI q.2.2.2.length))) h) h := by
  refine VM_start (ls := [some (.ref (gK G i))]) rfl ?_
  -- %m J0_length_8abf5
  refine V_aload_n (pc := 0) (i := 0) dJ0_length_8abf5_0 rfl rfl ?_
  refine V_sval (pc := 1) dJ0_length_8abf5_1 (by assumption) w_sval ?_
  refine V_slen (pc := 4) dJ0_length_8abf5_4 (by assumption) ?_
  refine V_aload_n (pc := 5) (i := 0) dJ0_length_8abf5_5 rfl rfl ?_
  refine V_s0 (pc := 6) dJ0_length_8abf5_6 sJ0_335 hi (J0_coder (d := 0) hi) (Nat.le_of_ble_eq_true rfl) (by omega) (Nat.le_of_ble_eq_true rfl) ?_
  refine V_ishr (pc := 9) dJ0_length_8abf5_9 ?_
  rw [shr0]
  exact VE_iret (pc := 10) dJ0_length_8abf5_10 rfl rfl rfl
theorem J3_checkIndex0 {k n : Nat} (hk : k < n) (hn : n < 2 ^ 31) : VM G mJ3_checkIndex_8e157 d 0 0 [.int (nI k), .int (nI n), .null] (xE (some (.int (nI k))) h) h := by
  refine VM_start (ls := [some (.int (nI k)), some (.int (nI n)), some .null]) rfl ?_
  -- %m J3_checkIndex_8e157
  refine V_iload_n (pc := 0) (i := 0) dJ3_checkIndex_8e157_0 rfl rfl ?_
  refine V_if_lt (pc := 1) 9 dJ3_checkIndex_8e157_1 rfl (fun c1 => ?_) (fun c1 => ?_)
  · exact absurd c1 (nI_pos (by omega))
  · refine V_iload_n (pc := 4) (i := 0) dJ3_checkIndex_8e157_4 rfl rfl ?_
    refine V_iload_n (pc := 5) (i := 1) dJ3_checkIndex_8e157_5 rfl rfl ?_
    refine V_icmp_lt (pc := 6) 16 dJ3_checkIndex_8e157_6 rfl (fun c6 => ?_) (fun c6 => ?_)
    · refine V_iload_n (pc := 16) (i := 0) dJ3_checkIndex_8e157_16 rfl rfl ?_
      exact VE_iret (pc := 17) dJ3_checkIndex_8e157_17 rfl rfl rfl
    · exact absurd (nI_lt hk hn) c6
theorem J3_checkIndex1 {k n t : Nat} (hk : k < n) (hn : n < 2 ^ 31) : VM G mJ3_checkIndex_8e157 d 0 0 [.int (nI k), .int (nI n), .ref t] (xE (some (.int (nI k))) h) h := by
  refine VM_start (ls := [some (.int (nI k)), some (.int (nI n)), some (.ref t)]) rfl ?_
  -- %m J3_checkIndex_8e157
  refine V_iload_n (pc := 0) (i := 0) dJ3_checkIndex_8e157_0 rfl rfl ?_
  refine V_if_lt (pc := 1) 9 dJ3_checkIndex_8e157_1 rfl (fun c1 => ?_) (fun c1 => ?_)
  · exact absurd c1 (nI_pos (by omega))
  · refine V_iload_n (pc := 4) (i := 0) dJ3_checkIndex_8e157_4 rfl rfl ?_
    refine V_iload_n (pc := 5) (i := 1) dJ3_checkIndex_8e157_5 rfl rfl ?_
    refine V_icmp_lt (pc := 6) 16 dJ3_checkIndex_8e157_6 rfl (fun c6 => ?_) (fun c6 => ?_)
    · refine V_iload_n (pc := 16) (i := 0) dJ3_checkIndex_8e157_16 rfl rfl ?_
      exact VE_iret (pc := 17) dJ3_checkIndex_8e157_17 rfl rfl rfl
    · exact absurd (nI_lt hk hn) c6
theorem J0_checkIndex {k n : Nat} (hk : k < n) (hn : n < 2 ^ 31) (hd : 1 ≤ d) : VM G mJ0_checkIndex_df160 d 0 0 [.int (nI k), .int (nI n)] (xE none h) h := by
  refine VM_start (ls := [some (.int (nI k)), some (.int (nI n))]) rfl ?_
  -- %m J0_checkIndex_df160
  refine V_iload_n (pc := 0) (i := 0) dJ0_checkIndex_df160_0 rfl rfl ?_
  refine V_iload_n (pc := 1) (i := 1) dJ0_checkIndex_df160_1 rfl rfl ?_
  refine V_sf (pc := 2) dJ0_checkIndex_df160_2 w_sf ?_ (fun t => ?_)
  · refine V_S3i (pc := 5) dJ0_checkIndex_df160_5 cJ0_1059 (J3_checkIndex0 (d := 0) hk hn) (Nat.le_of_ble_eq_true rfl) (by omega) (Nat.le_of_ble_eq_true rfl) ?_
    refine V_pop (pc := 8) dJ0_checkIndex_df160_8 rfl ?_
    exact VE_vret (pc := 9) dJ0_checkIndex_df160_9 rfl rfl
  · refine V_S3i (pc := 5) dJ0_checkIndex_df160_5 cJ0_1059 (J3_checkIndex1 (d := 0) hk hn) (Nat.le_of_ble_eq_true rfl) (by omega) (Nat.le_of_ble_eq_true rfl) ?_
    refine V_pop (pc := 8) dJ0_checkIndex_df160_8 rfl ?_
    exact VE_vret (pc := 9) dJ0_checkIndex_df160_9 rfl rfl
theorem J1_charAt {k : Nat} (hi : xStr[i]? = some q) (hk : k < q.2.2.2.length) (hd : 2 ≤ d) : VM G mJ1_charAt_3b067 d 0 0 [.ref (gV G i), .int (nI k)] (xE (some (.int (q.2.2.2.getD k 0))) h) h := by
  have hl := xStr_len hi
  have hx : q.2.2.2.getD k 0 ∈ q.2.2.2 := by rw [List.getD_eq_getElem?_getD, List.getElem?_eq_getElem hk]; exact List.getElem_mem hk
  obtain ⟨x1, x2, x3⟩ := (xStr_ok q (List.mem_of_getElem? hi)).2 _ hx
  refine VM_start (ls := [some (.ref (gV G i)), some (.int (nI k))]) rfl ?_
  -- %m J1_charAt_3b067
  refine V_iload_n (pc := 0) (i := 1) dJ1_charAt_3b067_0 rfl rfl ?_
  refine V_aload_n (pc := 1) (i := 0) dJ1_charAt_3b067_1 rfl rfl ?_
  refine V_slen (pc := 2) dJ1_charAt_3b067_2 (by assumption) ?_
  refine V_S2v (pc := 3) dJ1_charAt_3b067_3 cJ1_9 (J0_checkIndex (d := 1) hk (by omega) (by omega)) (Nat.le_of_ble_eq_true rfl) (by omega) (Nat.le_of_ble_eq_true rfl) ?_
  refine V_aload_n (pc := 6) (i := 0) dJ1_charAt_3b067_6 rfl rfl ?_
  refine V_iload_n (pc := 7) (i := 1) dJ1_charAt_3b067_7 rfl rfl ?_
  refine V_sbal (pc := 8) dJ1_charAt_3b067_8 (by assumption) rfl (by omega) ?_
  refine V_sipush (pc := 9) (v := 255) dJ1_charAt_3b067_9 (by decide) ?_
  refine V_iand (pc := 12) dJ1_charAt_3b067_12 ?_
  refine V_i2c (pc := 13) dJ1_charAt_3b067_13 x1 ?_
  exact VE_nret (pc := 14) dJ1_charAt_3b067_14 rfl x2 rfl rfl
theorem J0_charAt {k : Nat} (hi : xStr[i]? = some q) (hk : k < q.2.2.2.length) (hd : 3 ≤ d) : VM G mJ0_charAt_5068e d 0 0 [.ref (gK G i), .int (nI k)] (xE (some (.int (q.2.2.2.getD k 0))) h) h := by
  have hx : q.2.2.2.getD k 0 ∈ q.2.2.2 := by rw [List.getD_eq_getElem?_getD, List.getElem?_eq_getElem hk]; exact List.getElem_mem hk
  obtain ⟨x1, x2, x3⟩ := (xStr_ok q (List.mem_of_getElem? hi)).2 _ hx
  refine VM_start (ls := [some (.ref (gK G i)), some (.int (nI k))]) rfl ?_
  -- %m J0_charAt_5068e
  refine V_aload_n (pc := 0) (i := 0) dJ0_charAt_5068e_0 rfl rfl ?_
  refine V_s0 (pc := 1) dJ0_charAt_5068e_1 sJ0_492 hi (J0_isLatin1 (d := 0) hi) (Nat.le_of_ble_eq_true rfl) (by omega) (Nat.le_of_ble_eq_true rfl) ?_
  refine V_if_eq (pc := 4) 16 dJ0_charAt_5068e_4 rfl (fun c4 => ?_) (fun c4 => ?_)
  · exact absurd c4 (by decide)
  · refine V_aload_n (pc := 7) (i := 0) dJ0_charAt_5068e_7 rfl rfl ?_
    refine V_sval (pc := 8) dJ0_charAt_5068e_8 (by assumption) w_sval ?_
    refine V_iload_n (pc := 11) (i := 1) dJ0_charAt_5068e_11 rfl rfl ?_
    refine V_S2i (pc := 12) dJ0_charAt_5068e_12 cJ0_495 (J1_charAt (d := 2) hi hk (by omega)) (Nat.le_of_ble_eq_true rfl) (by omega) (Nat.le_of_ble_eq_true rfl) ?_
    exact VE_nret (pc := 15) dJ0_charAt_5068e_15 rfl x2 rfl rfl
theorem J1_canEncode {c : Nat} (hc : c < 256) : VM G mJ1_canEncode_9a6ad d 0 0 [.int (nI c)] (xE (some (.int 1)) h) h := by
  refine VM_start (ls := [some (.int (nI c))]) rfl ?_
  -- %m J1_canEncode_9a6ad
  refine V_iload_n (pc := 0) (i := 0) dJ1_canEncode_9a6ad_0 rfl rfl ?_
  refine V_if_lt (pc := 1) 15 dJ1_canEncode_9a6ad_1 rfl (fun c1 => ?_) (fun c1 => ?_)
  · exact absurd c1 (nI_pos (by omega))
  · refine V_iload_n (pc := 4) (i := 0) dJ1_canEncode_9a6ad_4 rfl rfl ?_
    refine V_sipush (pc := 5) (v := 255) dJ1_canEncode_9a6ad_5 (by decide) ?_
    refine V_icmp_gt (pc := 8) 15 dJ1_canEncode_9a6ad_8 rfl (fun c8 => ?_) (fun c8 => ?_)
    · exact absurd c8 (nI_nlt (a := 255) (by omega) (by omega))
    · refine V_iconst (pc := 11) (v := 1) dJ1_canEncode_9a6ad_11 (by decide) ?_
      refine V_goto (pc := 12) 16 dJ1_canEncode_9a6ad_12 rfl ?_
      exact VE_zret (pc := 16) dJ1_canEncode_9a6ad_16 rfl (Or.inr rfl) rfl rfl
/-- where c is found, from k on -/
def ixG (f : Nat → Int32) (c : Int32) : Nat → Nat → Int32
  | 0, _ => -1
  | m + 1, k => if f k = c then nI k else ixG f c m (k + 1)
theorem J1_indexOfChar {x : Int32} (hi : xStr[i]? = some q) : VM G mJ1_indexOfChar_4cfef d 0 0 [.ref (gV G i), .int x, .int 0, .int (nI q.2.2.2.length)] (xE (some (.int (ixG (fun j => q.2.2.2.getD j 0) x.toInt8.toInt32 q.2.2.2.length 0))) h) h := by
  have hl := xStr_len hi
  refine VM_start (ls := [some (.ref (gV G i)), some (.int x), some (.int 0), some (.int (nI q.2.2.2.length)), none, none]) rfl ?_
  -- %m J1_indexOfChar_4cfef
  refine V_iload_n (pc := 0) (i := 1) dJ1_indexOfChar_4cfef_0 rfl rfl ?_
  refine V_i2b (pc := 1) dJ1_indexOfChar_4cfef_1 rfl ?_
  refine V_istore (pc := 2) dJ1_indexOfChar_4cfef_2 (by decide) rfl ?_
  refine V_iload_n (pc := 4) (i := 2) dJ1_indexOfChar_4cfef_4 rfl rfl ?_
  refine V_istore (pc := 5) dJ1_indexOfChar_4cfef_5 (by decide) rfl ?_
  have loop : ∀ (m k : Nat), m + k = q.2.2.2.length → V G mJ1_indexOfChar_4cfef d 0 0 (xE (some (.int (ixG (fun j => q.2.2.2.getD j 0) x.toInt8.toInt32 m k))) h) 7 [some (.ref (gV G i)), some (.int x), some (.int 0), some (.int (nI q.2.2.2.length)), some (.int x.toInt8.toInt32), some (.int (nI k))] [] h := by
    intro m
    induction m with
    | zero =>
      intro k hm
      refine V_iload (pc := 7) dJ1_indexOfChar_4cfef_7 rfl ?_
      refine V_iload_n (pc := 9) (i := 3) dJ1_indexOfChar_4cfef_9 rfl rfl ?_
      refine V_icmp_ge (pc := 10) 31 dJ1_indexOfChar_4cfef_10 rfl (fun c10 => ?_) (fun c10 => ?_)
      · refine V_iconst (pc := 31) (v := -1) dJ1_indexOfChar_4cfef_31 (by decide) ?_
        exact VE_iret (pc := 32) dJ1_indexOfChar_4cfef_32 rfl rfl rfl
      · exact absurd (by rw [show k = q.2.2.2.length by omega]; exact nI_le (by omega) (by omega)) c10
    | succ m ih =>
      intro k hm
      rw [ixG]
      refine V_iload (pc := 7) dJ1_indexOfChar_4cfef_7 rfl ?_
      refine V_iload_n (pc := 9) (i := 3) dJ1_indexOfChar_4cfef_9 rfl rfl ?_
      refine V_icmp_ge (pc := 10) 31 dJ1_indexOfChar_4cfef_10 rfl (fun c10 => ?_) (fun c10 => ?_)
      · exact absurd c10 (nI_ge (by omega) (by omega))
      · refine V_aload_n (pc := 13) (i := 0) dJ1_indexOfChar_4cfef_13 rfl rfl ?_
        refine V_iload (pc := 14) dJ1_indexOfChar_4cfef_14 rfl ?_
        refine V_sbal (pc := 16) dJ1_indexOfChar_4cfef_16 (by assumption) rfl (by omega) ?_
        refine V_iload (pc := 17) dJ1_indexOfChar_4cfef_17 rfl ?_
        refine V_icmp_ne (pc := 19) 25 dJ1_indexOfChar_4cfef_19 rfl (fun c19 => ?_) (fun c19 => ?_)
        · rw [if_neg c19]
          refine V_iinc (pc := 25) dJ1_indexOfChar_4cfef_25 (by decide) rfl rfl (iincN (n := 1) (by decide)) ?_
          refine V_goto (pc := 28) 7 dJ1_indexOfChar_4cfef_28 rfl ?_
          exact ih (k + 1) (by omega)
        · rw [if_pos c19]
          refine V_iload (pc := 22) dJ1_indexOfChar_4cfef_22 rfl ?_
          exact VE_iret (pc := 24) dJ1_indexOfChar_4cfef_24 rfl rfl rfl
  exact loop _ 0 (by omega)
theorem J1_indexOf {c : Nat} (hi : xStr[i]? = some q) (h0 : 0 < q.2.2.2.length) (hc : c < 256) (hd : 1 ≤ d) : VM G mJ1_indexOf_4cfef d 0 0 [.ref (gV G i), .int (nI c), .int 0, .int (nI q.2.2.2.length)] (xE (some (.int (ixG (fun j => q.2.2.2.getD j 0) (nI c).toInt8.toInt32 q.2.2.2.length 0))) h) h := by
  have hl := xStr_len hi
  refine VM_start (ls := [some (.ref (gV G i)), some (.int (nI c)), some (.int 0), some (.int (nI q.2.2.2.length))]) rfl ?_
  -- %m J1_indexOf_4cfef
  refine V_iload_n (pc := 0) (i := 1) dJ1_indexOf_4cfef_0 rfl rfl ?_
  refine V_S1i (pc := 1) dJ1_indexOf_4cfef_1 cJ1_88 (J1_canEncode (d := 0) hc) (Nat.le_of_ble_eq_true rfl) (by omega) (Nat.le_of_ble_eq_true rfl) ?_
  refine V_if_ne (pc := 4) 9 dJ1_indexOf_4cfef_4 rfl (fun c4 => ?_) (fun c4 => ?_)
  · refine V_iload_n (pc := 9) (i := 2) dJ1_indexOf_4cfef_9 rfl rfl ?_
    refine V_iconst (pc := 10) (v := 0) dJ1_indexOf_4cfef_10 (by decide) ?_
    refine V_max (pc := 11) dJ1_indexOf_4cfef_11 cJ1_92 w_maxS w_mathI w_maxC (by omega) (Nat.le_of_ble_eq_true rfl) ?_
    rw [if_neg (by decide)]
    refine V_istore_n (pc := 14) (i := 2) dJ1_indexOf_4cfef_14 rfl (by decide) rfl ?_
    refine V_iload_n (pc := 15) (i := 3) dJ1_indexOf_4cfef_15 rfl rfl ?_
    refine V_aload_n (pc := 16) (i := 0) dJ1_indexOf_4cfef_16 rfl rfl ?_
    refine V_slen (pc := 17) dJ1_indexOf_4cfef_17 (by assumption) ?_
    refine V_min (pc := 18) dJ1_indexOf_4cfef_18 cJ1_38 w_minS w_mathI w_minC (by omega) (Nat.le_of_ble_eq_true rfl) ?_
    rw [if_neg (Int32.not_lt.mpr (Int32.le_refl (nI q.2.2.2.length)))]
    refine V_istore_n (pc := 21) (i := 3) dJ1_indexOf_4cfef_21 rfl (by decide) rfl ?_
    refine V_iload_n (pc := 22) (i := 2) dJ1_indexOf_4cfef_22 rfl rfl ?_
    refine V_iload_n (pc := 23) (i := 3) dJ1_indexOf_4cfef_23 rfl rfl ?_
    refine V_icmp_lt (pc := 24) 29 dJ1_indexOf_4cfef_24 rfl (fun c24 => ?_) (fun c24 => ?_)
    · refine V_aload_n (pc := 29) (i := 0) dJ1_indexOf_4cfef_29 rfl rfl ?_
      refine V_iload_n (pc := 30) (i := 1) dJ1_indexOf_4cfef_30 rfl rfl ?_
      refine V_iload_n (pc := 31) (i := 2) dJ1_indexOf_4cfef_31 rfl rfl ?_
      refine V_iload_n (pc := 32) (i := 3) dJ1_indexOf_4cfef_32 rfl rfl ?_
      refine V_S4i (pc := 33) dJ1_indexOf_4cfef_33 cJ1_95 (J1_indexOfChar (d := 0) hi) (Nat.le_of_ble_eq_true rfl) (by omega) (Nat.le_of_ble_eq_true rfl) ?_
      exact VE_iret (pc := 36) dJ1_indexOf_4cfef_36 rfl rfl rfl
    · exact absurd (nI_lt (a := 0) h0 (by omega)) c24
  · exact absurd c4 (by decide)
theorem J0_indexOf2 {c : Nat} (hi : xStr[i]? = some q) (h0 : 0 < q.2.2.2.length) (hc : c < 256) (hd : 2 ≤ d) : VM G mJ0_indexOf_7cf53 d 0 0 [.ref (gK G i), .int (nI c), .int 0] (xE (some (.int (ixG (fun j => q.2.2.2.getD j 0) (nI c).toInt8.toInt32 q.2.2.2.length 0))) h) h := by
  refine VM_start (ls := [some (.ref (gK G i)), some (.int (nI c)), some (.int 0)]) rfl ?_
  -- %m J0_indexOf_7cf53
  refine V_aload_n (pc := 0) (i := 0) dJ0_indexOf_7cf53_0 rfl rfl ?_
  refine V_s0 (pc := 1) dJ0_indexOf_7cf53_1 sJ0_492 hi (J0_isLatin1 (d := 0) hi) (Nat.le_of_ble_eq_true rfl) (by omega) (Nat.le_of_ble_eq_true rfl) ?_
  refine V_if_eq (pc := 4) 23 dJ0_indexOf_7cf53_4 rfl (fun c4 => absurd c4 (by decide)) (fun c4 => ?_)
  refine V_aload_n (pc := 7) (i := 0) dJ0_indexOf_7cf53_7 rfl rfl ?_
  refine V_sval (pc := 8) dJ0_indexOf_7cf53_8 (by assumption) w_sval ?_
  refine V_iload_n (pc := 11) (i := 1) dJ0_indexOf_7cf53_11 rfl rfl ?_
  refine V_iload_n (pc := 12) (i := 2) dJ0_indexOf_7cf53_12 rfl rfl ?_
  refine V_aload_n (pc := 13) (i := 0) dJ0_indexOf_7cf53_13 rfl rfl ?_
  refine V_s0 (pc := 14) dJ0_indexOf_7cf53_14 sJ0_505 hi (J0_length (d := 1) hi (by omega)) (Nat.le_of_ble_eq_true rfl) (by omega) (Nat.le_of_ble_eq_true rfl) ?_
  refine V_S4i (pc := 17) dJ0_indexOf_7cf53_17 cJ0_637 (J1_indexOf (d := 1) hi h0 hc (by omega)) (Nat.le_of_ble_eq_true rfl) (by omega) (Nat.le_of_ble_eq_true rfl) ?_
  refine V_goto (pc := 20) 36 dJ0_indexOf_7cf53_20 rfl ?_
  exact VE_iret (pc := 36) dJ0_indexOf_7cf53_36 rfl rfl rfl
theorem J0_indexOf {c : Nat} (hi : xStr[i]? = some q) (h0 : 0 < q.2.2.2.length) (hc : c < 256) (hd : 3 ≤ d) : VM G mJ0_indexOf_0f7a4 d 0 0 [.ref (gK G i), .int (nI c)] (xE (some (.int (ixG (fun j => q.2.2.2.getD j 0) (nI c).toInt8.toInt32 q.2.2.2.length 0))) h) h := by
  refine VM_start (ls := [some (.ref (gK G i)), some (.int (nI c))]) rfl ?_
  -- %m J0_indexOf_0f7a4
  refine V_aload_n (pc := 0) (i := 0) dJ0_indexOf_0f7a4_0 rfl rfl ?_
  refine V_iload_n (pc := 1) (i := 1) dJ0_indexOf_0f7a4_1 rfl rfl ?_
  refine V_iconst (pc := 2) (v := 0) dJ0_indexOf_0f7a4_2 (by decide) ?_
  refine V_s2 (pc := 3) dJ0_indexOf_0f7a4_3 sJ0_633 hi (J0_indexOf2 (d := 2) hi h0 hc (by omega)) (Nat.le_of_ble_eq_true rfl) (by omega) (Nat.le_of_ble_eq_true rfl) ?_
  exact VE_iret (pc := 6) dJ0_indexOf_0f7a4_6 rfl rfl rfl
end Str
