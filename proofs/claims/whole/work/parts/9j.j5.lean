/-! ===== the loop of the law ===== -/
section J5
variable {G : xG} {d : Nat} {Q : xR → xH → Prop} {b : Nat} {S T : Nat → Nat → Int32} {fo : Nat → Int64} {hS : Nat → Option xC} {y : Option Nat}
theorem law_next {i m q : Nat} (k : V G mL_law d m (6 * m) Q 23 [some (.ref q), some (.ref (b + 0)), some (.ref (b + 68 + 0)), some (.ref (b + 68 + 35)), some (.int (nI (i + 6))), none, none] [] (jH G b S T fo hS y)) (l5 l6 : Option Value) : V G mL_law d m (6 * m) Q 2780 [some (.ref q), some (.ref (b + 0)), some (.ref (b + 68 + 0)), some (.ref (b + 68 + 35)), some (.int (nI i)), l5, l6] [] (jH G b S T fo hS y) := by
  refine V_forget 5 ?_
  refine V_forget 6 ?_
  show V G mL_law d m (6 * m) Q 2780 [some (.ref q), some (.ref (b + 0)), some (.ref (b + 68 + 0)), some (.ref (b + 68 + 35)), some (.int (nI i)), none, none] [] (jH G b S T fo hS y)
  refine V_iinc (pc := 2780) dL_law_2780 (by decide) rfl rfl (iincN (n := 6) (by decide)) ?_
  refine V_goto (pc := 2783) 23 dL_law_2783 rfl ?_
  exact k
theorem law_loop {q L : Nat} {xs : Nat → Int32} (hq : gV G 100 = q) (hs : gV G 101 = L ∧ ∀ j, nI (gV G (1000 + j)) = xs j) (hL : L ≤ 3072) (hb : gB G ≤ b) (hd : 100 ≤ d) (hQ : ∀ h, Q (.inl (some (.int 1))) h) : ∀ (m i : Nat) (S T : Nat → Nat → Int32) (fo : Nat → Int64) (y : Option Nat), L + 1 ≤ i + 6 * m → i ≤ 4000 → REL S T → V G mL_law d m (6 * m) Q 23 [some (.ref q), some (.ref (b + 0)), some (.ref (b + 68 + 0)), some (.ref (b + 68 + 35)), some (.int (nI i)), none, none] [] (jH G b S T fo hS y) := by
  have lt6 : ∀ i : Nat, i ≤ 4000 → (¬ nI L - 6 < nI i ↔ i + 6 ≤ L) := fun i hi => by
    have e : (nI L - 6).toInt = (L : Int) - 6 := by
      rcases Nat.lt_or_ge L 6 with c | c
      · rcases (show L = 0 ∨ L = 1 ∨ L = 2 ∨ L = 3 ∨ L = 4 ∨ L = 5 by omega) with rfl | rfl | rfl | rfl | rfl | rfl <;> rfl
      · rw [show (6 : Int32) = nI 6 from rfl, pk_sub c, nI_toInt (by omega)]
        omega
    rw [Int32.lt_iff_toInt_lt, e, nI_toInt (by omega)]
    omega
  have exit : ∀ (m i : Nat) (S T : Nat → Nat → Int32) (fo : Nat → Int64) (y : Option Nat), i ≤ 4000 → (i + 6 ≤ L → V G mL_law d m (6 * m) Q 33 [some (.ref q), some (.ref (b + 0)), some (.ref (b + 68 + 0)), some (.ref (b + 68 + 35)), some (.int (nI i)), none, none] [] (jH G b S T fo hS y)) → V G mL_law d m (6 * m) Q 23 [some (.ref q), some (.ref (b + 0)), some (.ref (b + 68 + 0)), some (.ref (b + 68 + 35)), some (.int (nI i)), none, none] [] (jH G b S T fo hS y) := by
    intro m i S T fo y hi k
    refine V_iload (pc := 23) dL_law_23 rfl ?_
    refine V_aload_n (pc := 25) (i := 0) dL_law_25 rfl rfl ?_
    refine J_len (pc := 26) dL_law_26 hq hs ?_
    refine V_bipush (pc := 27) (v := 6) dL_law_27 (by decide) ?_
    refine V_isub (pc := 29) dL_law_29 ?_
    refine V_icmp_gt (pc := 30) 2786 dL_law_30 rfl (fun c => ?_) (fun c => ?_)
    · refine V_iconst (pc := 2786) (v := 1) dL_law_2786 (by decide) ?_
      exact V_zret (pc := 2787) dL_law_2787 rfl rfl (hQ _)
    · exact k ((lt6 i hi).mp c)
  intro m
  induction m with
  | zero =>
    intro i S T fo y hm hi rel
    exact exit 0 i S T fo y hi (fun h => by omega)
  | succ m ih =>
    intro i S T fo y hm hi rel
    refine exit (m + 1) i S T fo y hi (fun h6 => ?_)
    have nxt : ∀ S' T' fo' y' l5 l6, REL S' T' → V G mL_law d m (6 * m) Q 2780 [some (.ref q), some (.ref (b + 0)), some (.ref (b + 68 + 0)), some (.ref (b + 68 + 35)), some (.int (nI i)), l5, l6] [] (jH G b S' T' fo' hS y') := fun S' T' fo' y' l5 l6 r => law_next (ih (i + 6) S' T' fo' y' (by omega) (by omega) r) l5 l6
    refine V_aload_n (pc := 33) (i := 0) dL_law_33 rfl rfl ?_
    refine V_iload (pc := 34) dL_law_34 rfl ?_
    refine J_ld (pc := 36) (j := i) dL_law_36 hq hs rfl (by omega) hL ?_
    refine V_bipush (pc := 37) (v := 63) dL_law_37 (by decide) ?_
    refine V_iand (pc := 39) dL_law_39 ?_
    obtain ⟨w, hw, ew⟩ : ∃ w, w < 64 ∧ xs i &&& 63 = nI w := lowB_in (k := 6) (fun j h1 h2 => by
      rw [b_and]
      have : ∀ j, j < 32 → 6 ≤ j → bt (63 : Int32) j = false := by decide +kernel
      rw [this j h2 h1, Bool.and_false])
    rw [ew]
    by_cases c45 : 44 < w
    · refine V_tableOut (pc := 40) 2780 dL_law_40 (Or.inr (by rw [nI_toInt (by omega)]; omega)) rfl ?_
      exact V_bud (by omega) (by omega) (nxt _ _ _ _ _ _ rel)
    · rcases (show w = 0 ∨ w = 1 ∨ w = 2 ∨ w = 3 ∨ w = 4 ∨ w = 5 ∨ w = 6 ∨ w = 7 ∨ w = 8 ∨ w = 9 ∨ w = 10 ∨ w = 11 ∨ w = 12 ∨ w = 13 ∨ w = 14 ∨ w = 15 ∨ w = 16 ∨ w = 17 ∨ w = 18 ∨ w = 19 ∨ w = 20 ∨ w = 21 ∨ w = 22 ∨ w = 23 ∨ w = 24 ∨ w = 25 ∨ w = 26 ∨ w = 27 ∨ w = 28 ∨ w = 29 ∨ w = 30 ∨ w = 31 ∨ w = 32 ∨ w = 33 ∨ w = 34 ∨ w = 35 ∨ w = 36 ∨ w = 37 ∨ w = 38 ∨ w = 39 ∨ w = 40 ∨ w = 41 ∨ w = 42 ∨ w = 43 ∨ w = 44 by omega) with rfl | rfl | rfl | rfl | rfl | rfl | rfl | rfl | rfl | rfl | rfl | rfl | rfl | rfl | rfl | rfl | rfl | rfl | rfl | rfl | rfl | rfl | rfl | rfl | rfl | rfl | rfl | rfl | rfl | rfl | rfl | rfl | rfl | rfl | rfl | rfl | rfl | rfl | rfl | rfl | rfl | rfl | rfl | rfl | rfl
      · refine V_tableIn (pc := 40) (off := 196) 236 dL_law_40 (by decide) (by decide) (by decide) rfl ?_
        exact law_feed hq hs hL h6 hb hd rel nxt
      · refine V_tableIn (pc := 40) (off := 269) 309 dL_law_40 (by decide) (by decide) (by decide) rfl ?_
        exact law_shore hq hs hL h6 hb hd rel nxt
      · refine V_tableIn (pc := 40) (off := 325) 365 dL_law_40 (by decide) (by decide) (by decide) rfl ?_
        exact law_fault hq hs hL h6 hb hd rel nxt
      · refine V_tableIn (pc := 40) (off := 338) 378 dL_law_40 (by decide) (by decide) (by decide) rfl ?_
        exact law_count hq hs hL h6 hb hd rel nxt
      · refine V_tableIn (pc := 40) (off := 394) 434 dL_law_40 (by decide) (by decide) (by decide) rfl ?_
        exact law_worth hq hs hL h6 hb hd rel nxt
      · refine V_tableIn (pc := 40) (off := 450) 490 dL_law_40 (by decide) (by decide) (by decide) rfl ?_
        exact law_conditional hq hs hL h6 hb hd rel nxt
      · refine V_tableIn (pc := 40) (off := 518) 558 dL_law_40 (by decide) (by decide) (by decide) rfl ?_
        exact law_person hq hs hL h6 hb hd rel nxt
      · refine V_tableIn (pc := 40) (off := 586) 626 dL_law_40 (by decide) (by decide) (by decide) rfl ?_
        exact law_sundays hq hs hL h6 hb hd rel nxt
      · refine V_tableIn (pc := 40) (off := 611) 651 dL_law_40 (by decide) (by decide) (by decide) rfl ?_
        exact law_has hq hs hL h6 hb hd rel nxt
      · refine V_tableIn (pc := 40) (off := 707) 747 dL_law_40 (by decide) (by decide) (by decide) rfl ?_
        exact law_miss hq hs hL h6 hb hd rel nxt
      · refine V_tableIn (pc := 40) (off := 775) 815 dL_law_40 (by decide) (by decide) (by decide) rfl ?_
        exact law_deny hq hs hL h6 hb hd rel nxt
      · refine V_tableIn (pc := 40) (off := 866) 906 dL_law_40 (by decide) (by decide) (by decide) rfl ?_
        exact law_bridge hq hs hL h6 hb hd rel nxt
      · refine V_tableIn (pc := 40) (off := 891) 931 dL_law_40 (by decide) (by decide) (by decide) rfl ?_
        exact law_undo hq hs hL h6 hb hd rel nxt
      · refine V_tableIn (pc := 40) (off := 904) 944 dL_law_40 (by decide) (by decide) (by decide) rfl ?_
        exact law_crossing hq hs hL h6 hb hd rel nxt
      · refine V_tableIn (pc := 40) (off := 960) 1000 dL_law_40 (by decide) (by decide) (by decide) rfl ?_
        exact law_then hq hs hL h6 hb hd rel nxt
      · refine V_tableIn (pc := 40) (off := 1040) 1080 dL_law_40 (by decide) (by decide) (by decide) rfl ?_
        exact law_first hq hs hL h6 hb hd rel nxt
      · refine V_tableIn (pc := 40) (off := 1096) 1136 dL_law_40 (by decide) (by decide) (by decide) rfl ?_
        exact law_waiting hq hs hL h6 hb hd rel nxt
      · refine V_tableIn (pc := 40) (off := 1164) 1204 dL_law_40 (by decide) (by decide) (by decide) rfl ?_
        exact law_toBear hq hs hL h6 hb hd rel nxt
      · refine V_tableIn (pc := 40) (off := 1220) 1260 dL_law_40 (by decide) (by decide) (by decide) rfl ?_
        exact law_comes hq hs hL h6 hb hd rel nxt
      · refine V_tableIn (pc := 40) (off := 1276) 1316 dL_law_40 (by decide) (by decide) (by decide) rfl ?_
        exact law_why hq hs hL h6 hb hd rel nxt
      · refine V_tableIn (pc := 40) (off := 1344) 1384 dL_law_40 (by decide) (by decide) (by decide) rfl ?_
        exact law_needed hq hs hL h6 hb hd rel nxt
      · refine V_tableIn (pc := 40) (off := 1412) 1452 dL_law_40 (by decide) (by decide) (by decide) rfl ?_
        exact law_fewest hq hs hL h6 hb hd rel nxt
      · refine V_tableIn (pc := 40) (off := 1480) 1520 dL_law_40 (by decide) (by decide) (by decide) rfl ?_
        exact law_leads hq hs hL h6 hb hd rel nxt
      · refine V_tableIn (pc := 40) (off := 1555) 1595 dL_law_40 (by decide) (by decide) (by decide) rfl ?_
        exact law_like hq hs hL h6 hb hd rel nxt
      · refine V_tableIn (pc := 40) (off := 1623) 1663 dL_law_40 (by decide) (by decide) (by decide) rfl ?_
        exact law_toSend hq hs hL h6 hb hd rel nxt
      · refine V_tableIn (pc := 40) (off := 1679) 1719 dL_law_40 (by decide) (by decide) (by decide) rfl ?_
        exact law_happiest hq hs hL h6 hb hd rel nxt
      · refine V_tableIn (pc := 40) (off := 1735) 1775 dL_law_40 (by decide) (by decide) (by decide) rfl ?_
        exact law_critical hq hs hL h6 hb hd rel nxt
      · refine V_tableIn (pc := 40) (off := 1791) 1831 dL_law_40 (by decide) (by decide) (by decide) rfl ?_
        exact law_bestMissed hq hs hL h6 hb hd rel nxt
      · refine V_tableIn (pc := 40) (off := 1847) 1887 dL_law_40 (by decide) (by decide) (by decide) rfl ?_
        exact law_common hq hs hL h6 hb hd rel nxt
      · refine V_tableIn (pc := 40) (off := 1915) 1955 dL_law_40 (by decide) (by decide) (by decide) rfl ?_
        exact law_apart hq hs hL h6 hb hd rel nxt
      · refine V_tableIn (pc := 40) (off := 1983) 2023 dL_law_40 (by decide) (by decide) (by decide) rfl ?_
        exact law_unhad hq hs hL h6 hb hd rel nxt
      · refine V_tableIn (pc := 40) (off := 1996) 2036 dL_law_40 (by decide) (by decide) (by decide) rfl ?_
        exact law_resting hq hs hL h6 hb hd rel nxt
      · refine V_tableIn (pc := 40) (off := 2009) 2049 dL_law_40 (by decide) (by decide) (by decide) rfl ?_
        exact law_sets hq hs hL h6 hb hd rel nxt
      · refine V_tableIn (pc := 40) (off := 2065) 2105 dL_law_40 (by decide) (by decide) (by decide) rfl ?_
        exact law_toDeny hq hs hL h6 hb hd rel nxt
      · refine V_tableIn (pc := 40) (off := 2133) 2173 dL_law_40 (by decide) (by decide) (by decide) rfl ?_
        exact law_sources hq hs hL h6 hb hd rel nxt
      · refine V_tableIn (pc := 40) (off := 2189) 2229 dL_law_40 (by decide) (by decide) (by decide) rfl ?_
        exact law_times hq hs hL h6 hb hd rel nxt
      · refine V_tableIn (pc := 40) (off := 2257) 2297 dL_law_40 (by decide) (by decide) (by decide) rfl ?_
        exact law_fullest hq hs hL h6 hb hd rel nxt
      · refine V_tableIn (pc := 40) (off := 2325) 2365 dL_law_40 (by decide) (by decide) (by decide) rfl ?_
        exact law_see hq hs hL h6 hb hd rel nxt
      · refine V_tableIn (pc := 40) (off := 2421) 2461 dL_law_40 (by decide) (by decide) (by decide) rfl ?_
        exact law_tells hq hs hL h6 hb hd rel nxt
      · refine V_tableIn (pc := 40) (off := 2477) 2517 dL_law_40 (by decide) (by decide) (by decide) rfl ?_
        exact law_look hq hs hL h6 hb hd rel nxt
      · refine V_tableIn (pc := 40) (off := 2545) 2585 dL_law_40 (by decide) (by decide) (by decide) rfl ?_
        exact law_forget hq hs hL h6 hb hd rel nxt
      · refine V_tableIn (pc := 40) (off := 2556) 2596 dL_law_40 (by decide) (by decide) (by decide) rfl ?_
        exact law_game hq hs hL h6 hb hd rel nxt
      · refine V_tableIn (pc := 40) (off := 2636) 2676 dL_law_40 (by decide) (by decide) (by decide) rfl ?_
        exact law_years hq hs hL h6 hb hd rel nxt
      · refine V_tableIn (pc := 40) (off := 2716) 2756 dL_law_40 (by decide) (by decide) (by decide) rfl ?_
        exact law_image hq hs hL h6 hb hd rel nxt
      · refine V_tableIn (pc := 40) (off := 2727) 2767 dL_law_40 (by decide) (by decide) (by decide) rfl ?_
        exact law_restore hq hs hL h6 hb hd rel nxt
end J5
