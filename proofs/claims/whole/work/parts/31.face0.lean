/-! ===== exceptions that the class throws; what callers may ask ===== -/
def THN (own : String) (ik is ic i : Nat) (tx : String) : Prop := (Cond.classLink own ik NSE ∈ lw_good ∧ Cond.initialized NSE ∈ lw_good) ∧ (∃ b0, xStr[i]? = some (own, is, tx, b0)) ∧ (∀ w ∈ (nseAt own ic).filter vx_no, w ∈ lw_good ∨ w ∈ xCast) ∧ (∀ w ∈ Cond.classLink own ik NSE :: Cond.initialized NSE :: (nseAt own ic).filter vx_no, vx_ot w = true)
theorem thN : ∀ w ∈ (nseAt RX11 158).filter vx_no, w ∈ lw_good ∨ w ∈ xCast := fun w hw => ((by decide +kernel : ∀ w ∈ (nseAt RX11 158).filter vx_no, (w ∈ lw_tbl ∧ goodWord w = true) ∨ w ∈ xCast) w hw).elim (fun q => Or.inl (lw_good_of q.1 q.2)) Or.inr
theorem thI : ∀ w ∈ vx_atS RX11 314 IAE (xSup IAE), w ∈ lw_good ∨ w ∈ xCast := fun w hw => ((by decide +kernel : ∀ w ∈ vx_atS RX11 314 IAE (xSup IAE), (w ∈ lw_tbl ∧ goodWord w = true) ∨ w ∈ xCast) w hw).elim (fun q => Or.inl (lw_good_of q.1 q.2)) Or.inr
theorem thN2 : ∀ w ∈ Cond.classLink RX11 154 NSE :: Cond.initialized NSE :: (nseAt RX11 158).filter vx_no, vx_ot w = true := by decide +kernel
theorem thI2 : ∀ w ∈ Cond.classLink RX11 310 IAE :: Cond.initialized IAE :: vx_atS RX11 314 IAE (xSup IAE), vx_ot w = true := by decide +kernel
theorem thN3 : Cond.classLink RX11 154 NSE ∈ lw_good ∧ Cond.initialized NSE ∈ lw_good := ⟨lw_t (i := 967) (by decide +kernel) (by decide +kernel), lw_t (i := 26) (by decide +kernel) (by decide +kernel)⟩
theorem thI3 : Cond.classLink RX11 310 IAE ∈ lw_good ∧ Cond.initialized IAE ∈ lw_good := ⟨lw_t (i := 590) (by decide +kernel) (by decide +kernel), lw_t (i := 17) (by decide +kernel) (by decide +kernel)⟩
theorem th358 : THN RX11 154 358 158 19 "no such thing" := ⟨thN3, ⟨_, rfl⟩, thN, thN2⟩
theorem th360 : THN RX11 154 360 158 20 "no such if" := ⟨thN3, ⟨_, rfl⟩, thN, thN2⟩
theorem th362 : THN RX11 154 362 158 22 "no such person" := ⟨thN3, ⟨_, rfl⟩, thN, thN2⟩
theorem th364 : THN RX11 154 364 158 24 "no such what" := ⟨thN3, ⟨_, rfl⟩, thN, thN2⟩
theorem th366 : TH RX11 310 366 314 0 IAE "a number out of its bounds" := ⟨by decide +kernel, thI3, ⟨_, rfl⟩, thI, thI2⟩
theorem th156 : THN RX11 154 156 158 18 "no such count" := ⟨thN3, ⟨_, rfl⟩, thN, thN2⟩
theorem th186 : THN RX11 154 186 158 21 "nothing such of an if" := ⟨thN3, ⟨_, rfl⟩, thN, thN2⟩
theorem th217 : THN RX11 154 217 158 23 "nothing such of a person" := ⟨thN3, ⟨_, rfl⟩, thN, thN2⟩
theorem th312 : TH RX11 310 312 314 25 IAE "a game is one of two" := ⟨by decide +kernel, thI3, ⟨_, rfl⟩, thI, thI2⟩
section Face0
variable {G : xG} {M : xM} {Q : xR → xH → Prop} {ls : List (Option Value)} {st : List Value} {pc : Nat} {d bc bs : Nat} {b : Nat} {S : Nat → Nat → Int32} {h0 h : xH}
theorem V_throwW {ik is ic i : Nat} {E tx : String} (th : TH M.1.cls ik is ic i E tx) (d0 : decode M.2.1 pc = .ok (.new ik, 3)) (d3 : decode M.2.1 (pc + 3) = .ok (.dup, 1)) (d4 : decode M.2.1 (pc + 4) = .ok (.ldc_w is, 3)) (d7 : decode M.2.1 (pc + 7) = .ok (.invokespecial ic, 3)) (d10 : decode M.2.1 (pc + 10) = .ok (.athrow, 1)) (ht : M.2.2.2.2 = []) (hd : 6 ≤ d) (hr : (st.map fun v => v.category).sum ≤ 8) (hq : ∀ h' : xH, h'.1 = h.1 → Q (.inr E) h') : V G M d (bc + 1) (bs + 6) Q pc ls st h := by
  intro p e R s m args below meth c H locs cells slots la C hP hS hl h1 h2
  obtain ⟨t1, ⟨t2, t3⟩, ⟨b0, t4⟩, t5, t6⟩ := th
  have a := C.fr
  have b := C.lo
  refine vx_throwSW (names := xSup E) C.x C.b C.w.tr C.own t1 (xSup_fit E) (C.ts _ t2) (C.ts _ t3) (C.w.str t4).1 (fun w hw => ?_) t6 C.w.zu C.w.zn hS (hl.1.trans C.ml.symm) d0 d3 d4 d7 d10 (fun x hx => by rw [C.tab, ht] at hx; cases hx) (by show 2 + 3 < _; omega) (by show _ + (13 * (2 + 1) + 43) ≤ _; omega) (by omega) (by omega) C.locks (fun t ha hz hk => ⟨(h.1, none), hq _ rfl, ?_, ?_, ?_⟩) (fun z hz => hS.2.2 z hz) (by omega) (by omega)
  · rcases t5 w hw with z | z
    · exact C.ts _ z
    · exact va_Nw.use (xCast_ok w z).2 (C.w.ca w z)
  · exact xP.grow (n := h.2) hP hk
  · exact Nat.le_trans hS.1 hz
  · intro q q1 q2
    rw [hk q (Nat.lt_of_lt_of_le q1 hS.1)]
    exact hS.2.1 q q1 q2
theorem V_throwNW {ik is ic i : Nat} {tx : String} (th : THN M.1.cls ik is ic i tx) (d0 : decode M.2.1 pc = .ok (.new ik, 3)) (d3 : decode M.2.1 (pc + 3) = .ok (.dup, 1)) (d4 : decode M.2.1 (pc + 4) = .ok (.ldc_w is, 3)) (d7 : decode M.2.1 (pc + 7) = .ok (.invokespecial ic, 3)) (d10 : decode M.2.1 (pc + 10) = .ok (.athrow, 1)) (ht : M.2.2.2.2 = []) (hd : 6 ≤ d) (hr : (st.map fun v => v.category).sum ≤ 8) (hq : ∀ h' : xH, h'.1 = h.1 → Q (.inr NSE) h') : V G M d (bc + 1) (bs + 6) Q pc ls st h := by
  intro p e R s m args below meth c H locs cells slots la C hP hS hl h1 h2
  obtain ⟨⟨t2, t3⟩, ⟨b0, t4⟩, t5, t6⟩ := th
  have a := C.fr
  have b := C.lo
  refine nse_throwSW C.x C.b C.w.tr C.own (C.ts _ t2) (C.ts _ t3) (C.w.str t4).1 (fun w hw => ?_) t6 C.w.zu C.w.zn hS (hl.1.trans C.ml.symm) d0 d3 d4 d7 d10 (fun x hx => by rw [C.tab, ht] at hx; cases hx) (by omega) (by omega) (by omega) (by omega) C.locks (fun t ha hz hk => ⟨(h.1, none), hq _ rfl, ?_, ?_, ?_⟩) (fun z hz => hS.2.2 z hz) (by omega) (by omega)
  · rcases t5 w hw with z | z
    · exact C.ts _ z
    · exact va_Nw.use (xCast_ok w z).2 (C.w.ca w z)
  · exact xP.grow (n := h.2) hP hk
  · exact Nat.le_trans hS.1 hz
  · intro q q1 q2
    rw [hk q (Nat.lt_of_lt_of_le q1 hS.1)]
    exact hS.2.1 q q1 q2
theorem V_throwN {ik is ic i : Nat} {tx : String} (th : THN M.1.cls ik is ic i tx) (d0 : decode M.2.1 pc = .ok (.new ik, 3)) (d3 : decode M.2.1 (pc + 3) = .ok (.dup, 1)) (d4 : decode M.2.1 (pc + 4) = .ok (.ldc is, 2)) (d7 : decode M.2.1 (pc + 6) = .ok (.invokespecial ic, 3)) (d10 : decode M.2.1 (pc + 9) = .ok (.athrow, 1)) (ht : M.2.2.2.2 = []) (hd : 6 ≤ d) (hr : (st.map fun v => v.category).sum ≤ 8) (hq : ∀ h' : xH, h'.1 = h.1 → Q (.inr NSE) h') : V G M d (bc + 1) (bs + 6) Q pc ls st h := by
  intro p e R s m args below meth c H locs cells slots la C hP hS hl h1 h2
  obtain ⟨⟨t2, t3⟩, ⟨b0, t4⟩, t5, t6⟩ := th
  have a := C.fr
  have b := C.lo
  refine nse_throwS C.x C.b C.w.tr C.own (C.ts _ t2) (C.ts _ t3) (C.w.str t4).1 (fun w hw => ?_) t6 C.w.zu C.w.zn hS (hl.1.trans C.ml.symm) d0 d3 d4 d7 d10 (fun x hx => by rw [C.tab, ht] at hx; cases hx) (by omega) (by omega) (by omega) (by omega) C.locks (fun t ha hz hk => ⟨(h.1, none), hq _ rfl, ?_, ?_, ?_⟩) (fun z hz => hS.2.2 z hz) (by omega) (by omega)
  · rcases t5 w hw with z | z
    · exact C.ts _ z
    · exact va_Nw.use (xCast_ok w z).2 (C.w.ca w z)
  · exact xP.grow (n := h.2) hP hk
  · exact Nat.le_trans hS.1 hz
  · intro q q1 q2
    rw [hk q (Nat.lt_of_lt_of_le q1 hS.1)]
    exact hS.2.1 q q1 q2
/-- between two numbers -/
def inI (x l m : Int32) : Prop := l ≤ x ∧ x ≤ m
theorem X11_mustBeThing_ok {t : Nat} (ht : t < 10) : VM G mX11_mustBeThing d 0 0 [.int (nI t)] (xE none h) h := by
  refine VM_start (ls := [some (.int (nI t))]) rfl ?_
  -- %m X11_mustBeThing
  refine V_iload_n (pc := 0) (i := 0) dX11_mustBeThing_0 rfl rfl ?_
  refine V_if_lt (pc := 1) 10 dX11_mustBeThing_1 rfl (fun c1 => ?_) (fun c1 => ?_)
  · exact absurd c1 (nI_pos (by omega))
  · refine V_iload_n (pc := 4) (i := 0) dX11_mustBeThing_4 rfl rfl ?_
    refine V_bipush (pc := 5) (v := 10) dX11_mustBeThing_5 (by decide) ?_
    refine V_icmp_lt (pc := 7) 21 dX11_mustBeThing_7 rfl (fun c7 => ?_) (fun c7 => ?_)
    · exact VE_vret (pc := 21) dX11_mustBeThing_21 rfl rfl
    · exact absurd (nI_lt (b := 10) ht (by decide)) c7
theorem X11_mustBeThing_bad {t : Int32} (ht : t < 0 ∨ 10 ≤ t) (hd : 6 ≤ d) : VM G mX11_mustBeThing d 1 6 [.int t] (xT NSE h) h := by
  refine VM_start (ls := [some (.int t)]) rfl ?_
  -- %m X11_mustBeThing
  refine V_iload_n (pc := 0) (i := 0) dX11_mustBeThing_0 rfl rfl ?_
  refine V_if_lt (pc := 1) 10 dX11_mustBeThing_1 rfl (fun c1 => ?_) (fun c1 => ?_)
  · exact V_throwNW (pc := 10) th358 dX11_mustBeThing_10 dX11_mustBeThing_13 dX11_mustBeThing_14 dX11_mustBeThing_17 dX11_mustBeThing_20 rfl (by omega) (Nat.le_of_ble_eq_true rfl) (fun h' e => ⟨rfl, e⟩)
  · refine V_iload_n (pc := 4) (i := 0) dX11_mustBeThing_4 rfl rfl ?_
    refine V_bipush (pc := 5) (v := 10) dX11_mustBeThing_5 (by decide) ?_
    refine V_icmp_lt (pc := 7) 21 dX11_mustBeThing_7 rfl (fun c7 => ?_) (fun c7 => ?_)
    · exact absurd (ht.resolve_left c1) (Int32.not_le.mpr c7)
    · exact V_throwNW (pc := 10) th358 dX11_mustBeThing_10 dX11_mustBeThing_13 dX11_mustBeThing_14 dX11_mustBeThing_17 dX11_mustBeThing_20 rfl (by omega) (Nat.le_of_ble_eq_true rfl) (fun h' e => ⟨rfl, e⟩)
theorem X11_mustBeWhat_ok {w m : Nat} (hw : w ≤ m) (hm : m < 2 ^ 31) : VM G mX11_mustBeWhat d 0 0 [.int (nI w), .int (nI m)] (xE none h) h := by
  refine VM_start (ls := [some (.int (nI w)), some (.int (nI m))]) rfl ?_
  -- %m X11_mustBeWhat
  refine V_iload_n (pc := 0) (i := 0) dX11_mustBeWhat_0 rfl rfl ?_
  refine V_if_lt (pc := 1) 9 dX11_mustBeWhat_1 rfl (fun c1 => ?_) (fun c1 => ?_)
  · exact absurd c1 (nI_pos (by omega))
  · refine V_iload_n (pc := 4) (i := 0) dX11_mustBeWhat_4 rfl rfl ?_
    refine V_iload_n (pc := 5) (i := 1) dX11_mustBeWhat_5 rfl rfl ?_
    refine V_icmp_le (pc := 6) 20 dX11_mustBeWhat_6 rfl (fun c6 => ?_) (fun c6 => ?_)
    · exact VE_vret (pc := 20) dX11_mustBeWhat_20 rfl rfl
    · exact absurd (nI_le hw hm) c6
theorem X11_mustBeWhat_bad {w m : Int32} (hw : w < 0 ∨ m < w) (hd : 6 ≤ d) : VM G mX11_mustBeWhat d 1 6 [.int w, .int m] (xT NSE h) h := by
  refine VM_start (ls := [some (.int w), some (.int m)]) rfl ?_
  -- %m X11_mustBeWhat
  refine V_iload_n (pc := 0) (i := 0) dX11_mustBeWhat_0 rfl rfl ?_
  refine V_if_lt (pc := 1) 9 dX11_mustBeWhat_1 rfl (fun c1 => ?_) (fun c1 => ?_)
  · exact V_throwNW (pc := 9) th364 dX11_mustBeWhat_9 dX11_mustBeWhat_12 dX11_mustBeWhat_13 dX11_mustBeWhat_16 dX11_mustBeWhat_19 rfl (by omega) (Nat.le_of_ble_eq_true rfl) (fun h' e => ⟨rfl, e⟩)
  · refine V_iload_n (pc := 4) (i := 0) dX11_mustBeWhat_4 rfl rfl ?_
    refine V_iload_n (pc := 5) (i := 1) dX11_mustBeWhat_5 rfl rfl ?_
    refine V_icmp_le (pc := 6) 20 dX11_mustBeWhat_6 rfl (fun c6 => ?_) (fun c6 => ?_)
    · exact absurd (hw.resolve_left c1) (Int32.not_lt.mpr c6)
    · exact V_throwNW (pc := 9) th364 dX11_mustBeWhat_9 dX11_mustBeWhat_12 dX11_mustBeWhat_13 dX11_mustBeWhat_16 dX11_mustBeWhat_19 rfl (by omega) (Nat.le_of_ble_eq_true rfl) (fun h' e => ⟨rfl, e⟩)
theorem X11_mustBeWithin_ok {x l m : Int32} (h1 : ¬ x < l) (h2 : ¬ m < x) : VM G mX11_mustBeWithin d 0 0 [.int x, .int l, .int m] (xE none h) h := by
  refine VM_start (ls := [some (.int x), some (.int l), some (.int m)]) rfl ?_
  -- %m X11_mustBeWithin
  refine V_iload_n (pc := 0) (i := 0) dX11_mustBeWithin_0 rfl rfl ?_
  refine V_iload_n (pc := 1) (i := 1) dX11_mustBeWithin_1 rfl rfl ?_
  refine V_icmp_lt (pc := 2) 10 dX11_mustBeWithin_2 rfl (fun c2 => ?_) (fun c2 => ?_)
  · exact absurd c2 h1
  · refine V_iload_n (pc := 5) (i := 0) dX11_mustBeWithin_5 rfl rfl ?_
    refine V_iload_n (pc := 6) (i := 2) dX11_mustBeWithin_6 rfl rfl ?_
    refine V_icmp_le (pc := 7) 21 dX11_mustBeWithin_7 rfl (fun c7 => ?_) (fun c7 => ?_)
    · exact VE_vret (pc := 21) dX11_mustBeWithin_21 rfl rfl
    · exact absurd (Int32.not_lt.mp h2) c7
theorem X11_mustBeWithin_bad {x l m : Int32} (hx : x < l ∨ m < x) (hd : 6 ≤ d) : VM G mX11_mustBeWithin d 1 6 [.int x, .int l, .int m] (xT IAE h) h := by
  refine VM_start (ls := [some (.int x), some (.int l), some (.int m)]) rfl ?_
  -- %m X11_mustBeWithin
  refine V_iload_n (pc := 0) (i := 0) dX11_mustBeWithin_0 rfl rfl ?_
  refine V_iload_n (pc := 1) (i := 1) dX11_mustBeWithin_1 rfl rfl ?_
  refine V_icmp_lt (pc := 2) 10 dX11_mustBeWithin_2 rfl (fun c2 => ?_) (fun c2 => ?_)
  · exact V_throwW (pc := 10) th366 dX11_mustBeWithin_10 dX11_mustBeWithin_13 dX11_mustBeWithin_14 dX11_mustBeWithin_17 dX11_mustBeWithin_20 rfl (by omega) (Nat.le_of_ble_eq_true rfl) (fun h' e => ⟨rfl, e⟩)
  · refine V_iload_n (pc := 5) (i := 0) dX11_mustBeWithin_5 rfl rfl ?_
    refine V_iload_n (pc := 6) (i := 2) dX11_mustBeWithin_6 rfl rfl ?_
    refine V_icmp_le (pc := 7) 21 dX11_mustBeWithin_7 rfl (fun c7 => ?_) (fun c7 => ?_)
    · exact absurd (hx.resolve_left c2) (Int32.not_lt.mpr c7)
    · exact V_throwW (pc := 10) th366 dX11_mustBeWithin_10 dX11_mustBeWithin_13 dX11_mustBeWithin_14 dX11_mustBeWithin_17 dX11_mustBeWithin_20 rfl (by omega) (Nat.le_of_ble_eq_true rfl) (fun h' e => ⟨rfl, e⟩)
theorem X11_mustBePerson_ok {s pp q : Nat} (hsh : shC (S 0 9) = s) (hp : S s 7 = nI pp) (h8 : pp ≤ 8) (hq : q < pp) : VM G mX11_mustBePerson d 0 0 [.ref (b + 0), .int (nI q)] (xE none (wH G b tbC S h0)) (wH G b tbC S h0) := by
  have hS := tbC_shore (S 0 9)
  rw [hsh] at hS
  obtain ⟨a0, -⟩ := id hS
  refine VM_start (ls := [some (.ref (b + 0)), some (.int (nI q))]) rfl ?_
  -- %m X11_mustBePerson
  refine V_iload_n (pc := 0) (i := 1) dX11_mustBePerson_0 rfl rfl ?_
  refine V_if_lt (pc := 1) 15 dX11_mustBePerson_1 rfl (fun c1 => ?_) (fun c1 => ?_)
  · exact absurd c1 (nI_pos (by omega))
  · refine V_iload_n (pc := 4) (i := 1) dX11_mustBePerson_4 rfl rfl ?_
    refine V_aload_n (pc := 5) (i := 0) dX11_mustBePerson_5 rfl rfl ?_
    refine VW_getWs (pc := 6) dX11_mustBePerson_6 fX11_68 (by first | assumption | rfl) rfl (by first | assumption | (simp (disch := omega) only [up2_row, up2_col, up2_same, upR_row]; assumption)) ?_
    refine VW_getI (pc := 9) dX11_mustBePerson_9 fX11_120 (by first | assumption | rfl) rfl ?_
    refine V_icmp_lt (pc := 12) 26 dX11_mustBePerson_12 rfl (fun c12 => ?_) (fun c12 => ?_)
    · exact VE_vret (pc := 26) dX11_mustBePerson_26 rfl rfl
    · exact absurd (by rw [hp]; exact nI_lt hq (by omega)) c12
theorem X11_mustBePerson_bad {s pp : Nat} {x : Int32} (hsh : shC (S 0 9) = s) (hp : S s 7 = nI pp) (hx : x < 0 ∨ nI pp ≤ x) (hd : 6 ≤ d) : VM G mX11_mustBePerson d 1 6 [.ref (b + 0), .int x] (xT NSE (wH G b tbC S h0)) (wH G b tbC S h0) := by
  have hS := tbC_shore (S 0 9)
  rw [hsh] at hS
  obtain ⟨a0, -⟩ := id hS
  refine VM_start (ls := [some (.ref (b + 0)), some (.int x)]) rfl ?_
  -- %m X11_mustBePerson
  refine V_iload_n (pc := 0) (i := 1) dX11_mustBePerson_0 rfl rfl ?_
  refine V_if_lt (pc := 1) 15 dX11_mustBePerson_1 rfl (fun c1 => ?_) (fun c1 => ?_)
  · exact V_throwNW (pc := 15) th362 dX11_mustBePerson_15 dX11_mustBePerson_18 dX11_mustBePerson_19 dX11_mustBePerson_22 dX11_mustBePerson_25 rfl (by omega) (Nat.le_of_ble_eq_true rfl) (fun h' e => ⟨rfl, e⟩)
  · refine V_iload_n (pc := 4) (i := 1) dX11_mustBePerson_4 rfl rfl ?_
    refine V_aload_n (pc := 5) (i := 0) dX11_mustBePerson_5 rfl rfl ?_
    refine VW_getWs (pc := 6) dX11_mustBePerson_6 fX11_68 (by first | assumption | rfl) rfl (by first | assumption | (simp (disch := omega) only [up2_row, up2_col, up2_same, upR_row]; assumption)) ?_
    refine VW_getI (pc := 9) dX11_mustBePerson_9 fX11_120 (by first | assumption | rfl) rfl ?_
    refine V_icmp_lt (pc := 12) 26 dX11_mustBePerson_12 rfl (fun c12 => ?_) (fun c12 => ?_)
    · exact absurd (hx.resolve_left c1) (Int32.not_le.mpr (by rw [hp] at c12; exact c12))
    · exact V_throwNW (pc := 15) th362 dX11_mustBePerson_15 dX11_mustBePerson_18 dX11_mustBePerson_19 dX11_mustBePerson_22 dX11_mustBePerson_25 rfl (by omega) (Nat.le_of_ble_eq_true rfl) (fun h' e => ⟨rfl, e⟩)
theorem X11_mustBeIf_ok {s n q : Nat} (hsh : shC (S 0 9) = s) (hn : S (s + 2) 4 = nI n) (h12 : n ≤ 12) (hq : q < n) : VM G mX11_mustBeIf d 0 0 [.ref (b + 0), .int (nI q)] (xE none (wH G b tbC S h0)) (wH G b tbC S h0) := by
  have hS := tbC_shore (S 0 9)
  rw [hsh] at hS
  obtain ⟨a0, a1, ⟨i0, -⟩, -⟩ := id hS
  refine VM_start (ls := [some (.ref (b + 0)), some (.int (nI q))]) rfl ?_
  -- %m X11_mustBeIf
  refine V_iload_n (pc := 0) (i := 1) dX11_mustBeIf_0 rfl rfl ?_
  refine V_if_lt (pc := 1) 18 dX11_mustBeIf_1 rfl (fun c1 => ?_) (fun c1 => ?_)
  · exact absurd c1 (nI_pos (by omega))
  · refine V_iload_n (pc := 4) (i := 1) dX11_mustBeIf_4 rfl rfl ?_
    refine V_aload_n (pc := 5) (i := 0) dX11_mustBeIf_5 rfl rfl ?_
    refine VW_getWs (pc := 6) dX11_mustBeIf_6 fX11_68 (by first | assumption | rfl) rfl (by first | assumption | (simp (disch := omega) only [up2_row, up2_col, up2_same, upR_row]; assumption)) ?_
    refine VW_getR (pc := 9) dX11_mustBeIf_9 fX11_123 (by first | assumption | rfl) rfl ?_
    refine VW_getI (pc := 12) dX11_mustBeIf_12 fX11_127 (by first | assumption | rfl) rfl ?_
    refine V_icmp_lt (pc := 15) 29 dX11_mustBeIf_15 rfl (fun c15 => ?_) (fun c15 => ?_)
    · exact VE_vret (pc := 29) dX11_mustBeIf_29 rfl rfl
    · exact absurd (by rw [hn]; exact nI_lt hq (by omega)) c15
theorem X11_mustBeIf_bad {s n : Nat} {x : Int32} (hsh : shC (S 0 9) = s) (hn : S (s + 2) 4 = nI n) (hx : x < 0 ∨ nI n ≤ x) (hd : 6 ≤ d) : VM G mX11_mustBeIf d 1 6 [.ref (b + 0), .int x] (xT NSE (wH G b tbC S h0)) (wH G b tbC S h0) := by
  have hS := tbC_shore (S 0 9)
  rw [hsh] at hS
  obtain ⟨a0, a1, ⟨i0, -⟩, -⟩ := id hS
  refine VM_start (ls := [some (.ref (b + 0)), some (.int x)]) rfl ?_
  -- %m X11_mustBeIf
  refine V_iload_n (pc := 0) (i := 1) dX11_mustBeIf_0 rfl rfl ?_
  refine V_if_lt (pc := 1) 18 dX11_mustBeIf_1 rfl (fun c1 => ?_) (fun c1 => ?_)
  · exact V_throwNW (pc := 18) th360 dX11_mustBeIf_18 dX11_mustBeIf_21 dX11_mustBeIf_22 dX11_mustBeIf_25 dX11_mustBeIf_28 rfl (by omega) (Nat.le_of_ble_eq_true rfl) (fun h' e => ⟨rfl, e⟩)
  · refine V_iload_n (pc := 4) (i := 1) dX11_mustBeIf_4 rfl rfl ?_
    refine V_aload_n (pc := 5) (i := 0) dX11_mustBeIf_5 rfl rfl ?_
    refine VW_getWs (pc := 6) dX11_mustBeIf_6 fX11_68 (by first | assumption | rfl) rfl (by first | assumption | (simp (disch := omega) only [up2_row, up2_col, up2_same, upR_row]; assumption)) ?_
    refine VW_getR (pc := 9) dX11_mustBeIf_9 fX11_123 (by first | assumption | rfl) rfl ?_
    refine VW_getI (pc := 12) dX11_mustBeIf_12 fX11_127 (by first | assumption | rfl) rfl ?_
    refine V_icmp_lt (pc := 15) 29 dX11_mustBeIf_15 rfl (fun c15 => ?_) (fun c15 => ?_)
    · exact absurd (hx.resolve_left c1) (Int32.not_le.mpr (by rw [hn] at c15; exact c15))
    · exact V_throwNW (pc := 18) th360 dX11_mustBeIf_18 dX11_mustBeIf_21 dX11_mustBeIf_22 dX11_mustBeIf_25 dX11_mustBeIf_28 rfl (by omega) (Nat.le_of_ble_eq_true rfl) (fun h' e => ⟨rfl, e⟩)
end Face0
