/-! ===== class and model as they are made; the law's beginning ===== -/
section K0
variable {G : xG} {d : Nat} {Q : xR → xH → Prop} {b : Nat} {hS : Nat → Option xC}
theorem REL0 : REL S0 T0 := by
  refine ⟨44, 4, 0, 0, 0, 4, 0, 0, 0, 0, ⟨Or.inr ⟨rfl, rfl⟩, by decide +kernel, fun j hj => ?_, ⟨⟨rfl, rfl, by decide, fun j hj => by omega⟩, lowB_0 0⟩, ⟨rfl, rfl, by decide, fun k hk => by omega⟩, ⟨fun k _ => ⟨0, by decide, rfl⟩, fun k _ => Or.inl rfl, fun k _ => Or.inl rfl⟩, rfl, rfl, fun q => absurd rfl q⟩, ⟨⟨by decide +kernel, rfl, by decide, fun i hi => by omega, rfl, by decide, rfl, by decide, rfl, by decide⟩, ⟨fun i hi => by omega, fun i _ => rfl, fun q hq => by omega, fun i hi => by omega⟩, ⟨⟨rfl, rfl, rfl⟩, fun q hq => by omega⟩, ⟨rfl, by decide, fun i hi => by omega, rfl, by decide, rfl, by decide, fun h => by omega, rfl, by decide⟩, fun q hq => by omega⟩, ⟨rfl, rfl, by decide, by decide, fun i hi => by omega⟩, rfl⟩
  rcases (show j = 0 ∨ j = 1 ∨ j = 2 by omega) with rfl | rfl | rfl <;> rfl
theorem wH_pN {tb : xTb} {S : Nat → Nat → Int32} {c : Nat} {x : Nat → Option xC} : wH G b tb S (x, some c) = pN c 0 (fun _ => none) (wH G b tb S (x, none)) := pN_0 (h0 := (x, none))
theorem jH_made {x : Nat → Option xC} {S T : Nat → Nat → Int32} : pN (b + 68 + 35) (0 + 1) (uC (fun _ => none) 0 (.inl (3, 1, .inr (.inl (fun _ => 0))))) (wH G (b + 68) tbM T ((wH G b tbC S (x, none)).1, none)) = jH G b S T (fun _ => 0) x (some (b + 68 + 35 + (0 + 1))) := by
  refine Prod.ext (funext fun a => ?_) rfl
  have l1 : tbC.length = 68 := rfl
  have l2 : tbM.length = 35 := rfl
  simp only [pN, jH, wH, oB, uC, l1, l2]
  by_cases e : a = b + 68 + 35
  · subst e
    rw [if_pos ⟨Nat.le_refl _, by omega⟩, if_pos (Nat.sub_self _), if_neg (show ¬ (b ≤ b + 68 + 35 ∧ b + 68 + 35 < b + 68) by omega), if_neg (show ¬ (b + 68 ≤ b + 68 + 35 ∧ b + 68 + 35 < b + 68 + 35) by omega), if_pos rfl]
  · rw [if_neg (show ¬ (b + 68 + 35 ≤ a ∧ a < b + 68 + 35 + (0 + 1)) by omega), if_neg e]
    by_cases e2 : b + 68 ≤ a ∧ a < b + 68 + 35
    · rw [if_pos e2, if_neg (by omega), if_pos e2]
    · rw [if_neg e2]
      by_cases e3 : b ≤ a ∧ a < b + 68
      · rw [if_pos e3, if_pos e3]
      · rw [if_neg e3, if_neg e3, if_neg e2]
theorem law_start {q L : Nat} {xs : Nat → Int32} (hq : gV G 100 = q) (hs : gV G 101 = L ∧ ∀ j, nI (gV G (1000 + j)) = xs j) (hL : L ≤ 3072) (hb : gB G ≤ b) (hd : 100 ≤ d) (hQ : ∀ h, Q (.inl (some (.int 1))) h) : V G mL_law d 617 18199 Q 0 [some (.ref q), none, none, none, none, none, none] [] (hS, some b) := by
  rw [pN_0 (f := fun _ => none) (h0 := (hS, none))]
  refine P_new (pc := 0) (N := 12) dL_law_0 nL_8 ?_
  refine V_dup (pc := 3) dL_law_3 rfl ?_
  refine P_cI (pc := 4) (mc := 67) (ms := 7597) dL_law_4 cL_124 (X11_init_0 (d := 4) (by rfl) hb (by omega)) (Nat.le_of_ble_eq_true rfl) (by omega) (Nat.le_of_ble_eq_true rfl) ?_
  refine V_astore_n (pc := 7) (i := 1) dL_law_7 rfl (by decide) rfl ?_
  refine W_C ?_
  rw [wH_pN]
  refine P_new (pc := 8) (N := 57) dL_law_8 nL_125 ?_
  refine V_dup (pc := 11) dL_law_11 rfl ?_
  refine P_cI (pc := 12) (mc := 34) (ms := 7454) dL_law_12 cL_127 (X12_init_0 (d := 1) (by rfl) (by omega) (by omega)) (Nat.le_of_ble_eq_true rfl) (by omega) (Nat.le_of_ble_eq_true rfl) ?_
  refine V_astore_n (pc := 15) (i := 2) dL_law_15 rfl (by decide) rfl ?_
  refine W_M ?_
  rw [wH_pN]
  refine V_iconst (pc := 16) (v := 1) dL_law_16 (by decide) ?_
  refine P_newJ (pc := 17) (N := 1) dL_law_17 (by rfl) (by decide) ?_
  rw [jH_made]
  refine V_astore_n (pc := 19) (i := 3) dL_law_19 rfl (by decide) rfl ?_
  refine V_iconst (pc := 20) (v := 0) dL_law_20 (by decide) ?_
  refine V_istore (pc := 21) dL_law_21 (by decide) rfl ?_
  exact V_bud (by omega) (by omega) (law_loop hq hs hL hb hd hQ 513 0 S0 T0 _ _ (by omega) (by omega) REL0)
end K0
