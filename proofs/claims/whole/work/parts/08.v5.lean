/-! ===== V: exceptions, copies, String constants, calls with known ends ===== -/
section VR5
variable {G : xG} {M M' : xM} {d d' bc bs bc' bs' mc ms : Nat} {Q Q' : xR → xH → Prop} {pc idx n : Nat} {ls : List (Option Value)} {st As rest : List Value} {h h' : xH}
def xSup (_ : String) : List String := ["java/lang/RuntimeException", "java/lang/Exception"]
theorem xSup_fit (E : String) : ∀ n ∈ xSup E, Bundle.fit n = true := by
  show ∀ n ∈ ["java/lang/RuntimeException", "java/lang/Exception"], Bundle.fit n = true
  decide +kernel
/-- what 'throw new E("..")' needs -/
def TH (own : String) (ik is ic i : Nat) (E tx : String) : Prop := (Bundle.fit E = true) ∧ (Cond.classLink own ik E ∈ lw_good ∧ Cond.initialized E ∈ lw_good) ∧ (∃ b0, xStr[i]? = some (own, is, tx, b0)) ∧ (∀ w ∈ vx_atS own ic E (xSup E), w ∈ lw_good ∨ w ∈ xCast) ∧ (∀ w ∈ Cond.classLink own ik E :: Cond.initialized E :: vx_atS own ic E (xSup E), vx_ot w = true)
theorem V_throw {ik is ic i : Nat} {E tx : String} (th : TH M.1.cls ik is ic i E tx) (d0 : decode M.2.1 pc = .ok (.new ik, 3)) (d3 : decode M.2.1 (pc + 3) = .ok (.dup, 1)) (d4 : decode M.2.1 (pc + 4) = .ok (.ldc is, 2)) (d6 : decode M.2.1 (pc + 6) = .ok (.invokespecial ic, 3)) (d9 : decode M.2.1 (pc + 9) = .ok (.athrow, 1)) (ht : M.2.2.2.2 = []) (hd : 6 ≤ d) (hr : (st.map fun v => v.category).sum ≤ 8) (hq : ∀ h' : xH, h'.1 = h.1 → Q (.inr E) h') : V G M d (bc + 1) (bs + 6) Q pc ls st h := by
  intro p e R s m args below meth c H locs cells slots la C hP hS hl h1 h2
  obtain ⟨t1, ⟨t2, t3⟩, ⟨b0, t4⟩, t5, t6⟩ := th
  have a := C.fr
  have b := C.lo
  refine vx_throwS (names := xSup E) C.x C.b C.w.tr C.own t1 (xSup_fit E) (C.ts _ t2) (C.ts _ t3) (C.w.str t4).1 (fun w hw => ?_) t6 C.w.zu C.w.zn hS (hl.1.trans C.ml.symm) d0 d3 d4 d6 d9 (fun x hx => by rw [C.tab, ht] at hx; cases hx) (by show 2 + 3 < _; omega) (by show _ + (13 * (2 + 1) + 43) ≤ _; omega) (by omega) (by omega) C.locks (fun t ha hz hk => ⟨(h.1, none), hq _ rfl, ?_, ?_, ?_⟩) (fun z hz => hS.2.2 z hz) (by omega) (by omega)
  · rcases t5 w hw with z | z
    · exact C.ts _ z
    · exact va_Nw.use (xCast_ok w z).2 (C.w.ca w z)
  · exact xP.grow (n := h.2) hP hk
  · exact Nat.le_trans hS.1 hz
  · intro q q1 q2
    rw [hk q (Nat.lt_of_lt_of_le q1 hS.1)]
    exact hS.2.1 q q1 q2
end VR5
