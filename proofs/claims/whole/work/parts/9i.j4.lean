/-! ===== the cases of the law ===== -/
section J4
variable {G : xG} {d : Nat} {Q : xR → xH → Prop} {b : Nat} {S T : Nat → Nat → Int32} {fo : Nat → Int64} {hS : Nat → Option xC} {y : Option Nat}
theorem law_unhad {i m q L : Nat} {xs : Nat → Int32} (hq : gV G 100 = q) (hs : gV G 101 = L ∧ ∀ j, nI (gV G (1000 + j)) = xs j) (hL : L ≤ 3072) (hi : i + 6 ≤ L) (hb : gB G ≤ b) (hd : 100 ≤ d) (rel : REL S T) (nxt : ∀ S' T' fo' y' l5 l6, REL S' T' → V G mL_law d m (6 * m) Q 2780 [some (.ref q), some (.ref (b + 0)), some (.ref (b + 68 + 0)), some (.ref (b + 68 + 35)), some (.int (nI i)), l5, l6] [] (jH G b S' T' fo' hS y')) : V G mL_law d (m + 1) (6 * m + 6) Q 2023 [some (.ref q), some (.ref (b + 0)), some (.ref (b + 68 + 0)), some (.ref (b + 68 + 35)), some (.int (nI i)), none, none] [] (jH G b S T fo hS y) := by
  obtain ⟨v, S1, kC, kM⟩ := pr_unhad rel
  refine V_aload_n (pc := 2023) (i := 1) dL_law_2023 rfl rfl ?_
  refine J_C (pc := 2024) dL_law_2024 cL_235 (fun h0 => kC G b 80 h0 hb (by omega)) rfl (Nat.le_of_ble_eq_true rfl) rfl (by omega) (Nat.le_of_ble_eq_true rfl) ?_
  refine V_aload_n (pc := 2027) (i := 2) dL_law_2027 rfl rfl ?_
  refine J_M (pc := 2028) dL_law_2028 cL_238 (fun h0 => kM G (b + 68) 80 h0 (by omega) (by omega)) rfl (Nat.le_of_ble_eq_true rfl) rfl (by omega) (Nat.le_of_ble_eq_true rfl) (fun v1 T1 hp => ?_)
  obtain ⟨e1, e2, e3⟩ := hp
  subst e1
  refine V_icmp_eq (pc := 2031) 2780 dL_law_2031 rfl (fun _ => ?_) (fun q => absurd rfl q)
  exact V_bud (by omega) (by omega) (nxt _ _ _ _ _ _ e3)
theorem law_resting {i m q L : Nat} {xs : Nat → Int32} (hq : gV G 100 = q) (hs : gV G 101 = L ∧ ∀ j, nI (gV G (1000 + j)) = xs j) (hL : L ≤ 3072) (hi : i + 6 ≤ L) (hb : gB G ≤ b) (hd : 100 ≤ d) (rel : REL S T) (nxt : ∀ S' T' fo' y' l5 l6, REL S' T' → V G mL_law d m (6 * m) Q 2780 [some (.ref q), some (.ref (b + 0)), some (.ref (b + 68 + 0)), some (.ref (b + 68 + 35)), some (.int (nI i)), l5, l6] [] (jH G b S' T' fo' hS y')) : V G mL_law d (m + 1) (6 * m + 6) Q 2036 [some (.ref q), some (.ref (b + 0)), some (.ref (b + 68 + 0)), some (.ref (b + 68 + 35)), some (.int (nI i)), none, none] [] (jH G b S T fo hS y) := by
  obtain ⟨v, S1, kC, kM⟩ := pr_resting rel
  refine V_aload_n (pc := 2036) (i := 1) dL_law_2036 rfl rfl ?_
  refine J_C (pc := 2037) dL_law_2037 cL_239 (fun h0 => kC G b 80 h0 hb (by omega)) rfl (Nat.le_of_ble_eq_true rfl) rfl (by omega) (Nat.le_of_ble_eq_true rfl) ?_
  refine V_aload_n (pc := 2040) (i := 2) dL_law_2040 rfl rfl ?_
  refine J_M (pc := 2041) dL_law_2041 cL_242 (fun h0 => kM G (b + 68) 80 h0 (by omega) (by omega)) rfl (Nat.le_of_ble_eq_true rfl) rfl (by omega) (Nat.le_of_ble_eq_true rfl) (fun v1 T1 hp => ?_)
  obtain ⟨e1, e2, e3⟩ := hp
  subst e1
  refine V_icmp_eq (pc := 2044) 2780 dL_law_2044 rfl (fun _ => ?_) (fun q => absurd rfl q)
  exact V_bud (by omega) (by omega) (nxt _ _ _ _ _ _ e3)
theorem law_sets {i m q L : Nat} {xs : Nat → Int32} (hq : gV G 100 = q) (hs : gV G 101 = L ∧ ∀ j, nI (gV G (1000 + j)) = xs j) (hL : L ≤ 3072) (hi : i + 6 ≤ L) (hb : gB G ≤ b) (hd : 100 ≤ d) (rel : REL S T) (nxt : ∀ S' T' fo' y' l5 l6, REL S' T' → V G mL_law d m (6 * m) Q 2780 [some (.ref q), some (.ref (b + 0)), some (.ref (b + 68 + 0)), some (.ref (b + 68 + 35)), some (.int (nI i)), l5, l6] [] (jH G b S' T' fo' hS y')) : V G mL_law d (m + 1) (6 * m + 6) Q 2049 [some (.ref q), some (.ref (b + 0)), some (.ref (b + 68 + 0)), some (.ref (b + 68 + 35)), some (.int (nI i)), none, none] [] (jH G b S T fo hS y) := by
  rcases pr_sets rel (xs (i + 1)) with ⟨v, S1, kC, kM⟩ | ⟨kC, kM⟩
  · refine V_aload_n (pc := 2049) (i := 1) dL_law_2049 rfl rfl ?_
    refine V_aload_n (pc := 2050) (i := 0) dL_law_2050 rfl rfl ?_
    refine V_iload (pc := 2051) dL_law_2051 rfl ?_
    refine V_iconst (pc := 2053) (v := 1) dL_law_2053 (by decide) ?_
    refine V_iadd (pc := 2054) dL_law_2054 ?_
    refine J_ld (pc := 2055) (j := i + 1) dL_law_2055 hq hs (nI_add i 1) (by omega) hL ?_
    refine V_aload_n (pc := 2056) (i := 3) dL_law_2056 rfl rfl ?_
    refine J_S (pc := 2057) dL_law_2057 cL_243 (L_sets_ok (d := 90) (fun h0 => kC G b 80 h0 hb (by omega)) hb (by omega)) rfl (Nat.le_of_ble_eq_true rfl) rfl (by omega) (Nat.le_of_ble_eq_true rfl) ?_
    refine V_istore (pc := 2060) dL_law_2060 (by decide) rfl ?_
    refine V_aload_n (pc := 2062) (i := 2) dL_law_2062 rfl rfl ?_
    refine V_aload_n (pc := 2063) (i := 0) dL_law_2063 rfl rfl ?_
    refine V_iload (pc := 2064) dL_law_2064 rfl ?_
    refine V_iconst (pc := 2066) (v := 1) dL_law_2066 (by decide) ?_
    refine V_iadd (pc := 2067) dL_law_2067 ?_
    refine J_ld (pc := 2068) (j := i + 1) dL_law_2068 hq hs (nI_add i 1) (by omega) hL ?_
    refine J_M (pc := 2069) dL_law_2069 cL_245 (fun h0 => kM G (b + 68) 80 h0 (by omega) (by omega)) rfl (Nat.le_of_ble_eq_true rfl) rfl (by omega) (Nat.le_of_ble_eq_true rfl) (fun v1 T1 hp => ?_)
    obtain ⟨e1, e2, e3⟩ := hp
    subst e1
    refine V_istore (pc := 2072) dL_law_2072 (by decide) rfl ?_
    refine V_aload_n (pc := 2074) (i := 2) dL_law_2074 rfl rfl ?_
    refine J_M (pc := 2075) dL_law_2075 cL_139 (J_thrown e2) rfl (Nat.le_of_ble_eq_true rfl) rfl (by omega) (Nat.le_of_ble_eq_true rfl) (fun v2 T2 hp => ?_)
    obtain ⟨r1, r2⟩ := hp
    subst r1; subst r2
    refine V_iload (pc := 2078) dL_law_2078 rfl ?_
    refine V_icmp_eq (pc := 2080) 2085 dL_law_2080 rfl (fun _ => ?_) (fun q => absurd rfl q)
    refine V_iload (pc := 2085) dL_law_2085 rfl ?_
    refine V_if_ne (pc := 2087) 2102 dL_law_2087 rfl (fun q => absurd rfl q) (fun _ => ?_)
    refine V_aload_n (pc := 2090) (i := 3) dL_law_2090 rfl rfl ?_
    refine V_iconst (pc := 2091) (v := 0) dL_law_2091 (by decide) ?_
    refine J_lald (pc := 2092) dL_law_2092 updL0 ?_
    refine V_iload (pc := 2093) dL_law_2093 rfl ?_
    refine V_i2l (pc := 2095) dL_law_2095 rfl ?_
    refine V_lcmp (pc := 2096) dL_law_2096 ?_
    rw [cmp_0]
    refine V_if_eq (pc := 2097) 2102 dL_law_2097 rfl (fun _ => ?_) (fun q => absurd rfl q)
    refine V_goto (pc := 2102) 2780 dL_law_2102 rfl ?_
    exact V_bud (by omega) (by omega) (nxt _ _ _ _ _ _ e3)
  · refine V_aload_n (pc := 2049) (i := 1) dL_law_2049 rfl rfl ?_
    refine V_aload_n (pc := 2050) (i := 0) dL_law_2050 rfl rfl ?_
    refine V_iload (pc := 2051) dL_law_2051 rfl ?_
    refine V_iconst (pc := 2053) (v := 1) dL_law_2053 (by decide) ?_
    refine V_iadd (pc := 2054) dL_law_2054 ?_
    refine J_ld (pc := 2055) (j := i + 1) dL_law_2055 hq hs (nI_add i 1) (by omega) hL ?_
    refine V_aload_n (pc := 2056) (i := 3) dL_law_2056 rfl rfl ?_
    refine J_Sth (pc := 2057) (bc := m) (bs := 6 * m) dL_law_2057 cL_243 (L_sets_NSE (d := 90) (fun h0 => kC G b 80 h0 hb (by omega)) hb (by omega)) rfl (Nat.le_of_ble_eq_true rfl) rfl (by omega) (Nat.le_of_ble_eq_true rfl) (fun y1 => ?_)
    refine V_istore (pc := 2060) dL_law_2060 (by decide) rfl ?_
    refine V_aload_n (pc := 2062) (i := 2) dL_law_2062 rfl rfl ?_
    refine V_aload_n (pc := 2063) (i := 0) dL_law_2063 rfl rfl ?_
    refine V_iload (pc := 2064) dL_law_2064 rfl ?_
    refine V_iconst (pc := 2066) (v := 1) dL_law_2066 (by decide) ?_
    refine V_iadd (pc := 2067) dL_law_2067 ?_
    refine J_ld (pc := 2068) (j := i + 1) dL_law_2068 hq hs (nI_add i 1) (by omega) hL ?_
    refine J_M (pc := 2069) dL_law_2069 cL_245 (fun h0 => kM G (b + 68) 80 h0 (by omega) (by omega)) rfl (Nat.le_of_ble_eq_true rfl) rfl (by omega) (Nat.le_of_ble_eq_true rfl) (fun v1 T1 hp => ?_)
    obtain ⟨e1, e2, e3⟩ := hp
    subst e1
    refine V_istore (pc := 2072) dL_law_2072 (by decide) rfl ?_
    refine V_aload_n (pc := 2074) (i := 2) dL_law_2074 rfl rfl ?_
    refine J_M (pc := 2075) dL_law_2075 cL_139 (J_thrown e2) rfl (Nat.le_of_ble_eq_true rfl) rfl (by omega) (Nat.le_of_ble_eq_true rfl) (fun v2 T2 hp => ?_)
    obtain ⟨r1, r2⟩ := hp
    subst r1; subst r2
    refine V_iload (pc := 2078) dL_law_2078 rfl ?_
    refine V_icmp_eq (pc := 2080) 2085 dL_law_2080 rfl (fun _ => ?_) (fun q => absurd rfl q)
    refine V_iload (pc := 2085) dL_law_2085 rfl ?_
    refine V_if_ne (pc := 2087) 2102 dL_law_2087 rfl (fun _ => ?_) (fun q => absurd q (by decide))
    refine V_goto (pc := 2102) 2780 dL_law_2102 rfl ?_
    exact V_bud (by omega) (by omega) (nxt _ _ _ _ _ _ e3)
theorem law_toDeny {i m q L : Nat} {xs : Nat → Int32} (hq : gV G 100 = q) (hs : gV G 101 = L ∧ ∀ j, nI (gV G (1000 + j)) = xs j) (hL : L ≤ 3072) (hi : i + 6 ≤ L) (hb : gB G ≤ b) (hd : 100 ≤ d) (rel : REL S T) (nxt : ∀ S' T' fo' y' l5 l6, REL S' T' → V G mL_law d m (6 * m) Q 2780 [some (.ref q), some (.ref (b + 0)), some (.ref (b + 68 + 0)), some (.ref (b + 68 + 35)), some (.int (nI i)), l5, l6] [] (jH G b S' T' fo' hS y')) : V G mL_law d (m + 1) (6 * m + 6) Q 2105 [some (.ref q), some (.ref (b + 0)), some (.ref (b + 68 + 0)), some (.ref (b + 68 + 35)), some (.int (nI i)), none, none] [] (jH G b S T fo hS y) := by
  rcases pr_toDeny rel (xs (i + 1)) (xs (i + 2)) with ⟨v, S1, kC, kM⟩ | ⟨kC, kM⟩ | ⟨kC, kM⟩
  · refine V_aload_n (pc := 2105) (i := 1) dL_law_2105 rfl rfl ?_
    refine V_aload_n (pc := 2106) (i := 0) dL_law_2106 rfl rfl ?_
    refine V_iload (pc := 2107) dL_law_2107 rfl ?_
    refine V_iconst (pc := 2109) (v := 1) dL_law_2109 (by decide) ?_
    refine V_iadd (pc := 2110) dL_law_2110 ?_
    refine J_ld (pc := 2111) (j := i + 1) dL_law_2111 hq hs (nI_add i 1) (by omega) hL ?_
    refine V_aload_n (pc := 2112) (i := 0) dL_law_2112 rfl rfl ?_
    refine V_iload (pc := 2113) dL_law_2113 rfl ?_
    refine V_iconst (pc := 2115) (v := 2) dL_law_2115 (by decide) ?_
    refine V_iadd (pc := 2116) dL_law_2116 ?_
    refine J_ld (pc := 2117) (j := i + 2) dL_law_2117 hq hs (nI_add i 2) (by omega) hL ?_
    refine V_aload_n (pc := 2118) (i := 3) dL_law_2118 rfl rfl ?_
    refine J_S (pc := 2119) dL_law_2119 cL_246 (L_toDeny_ok (d := 90) (fun h0 => kC G b 80 h0 hb (by omega)) hb (by omega)) rfl (Nat.le_of_ble_eq_true rfl) rfl (by omega) (Nat.le_of_ble_eq_true rfl) ?_
    refine V_istore (pc := 2122) dL_law_2122 (by decide) rfl ?_
    refine V_aload_n (pc := 2124) (i := 2) dL_law_2124 rfl rfl ?_
    refine V_aload_n (pc := 2125) (i := 0) dL_law_2125 rfl rfl ?_
    refine V_iload (pc := 2126) dL_law_2126 rfl ?_
    refine V_iconst (pc := 2128) (v := 1) dL_law_2128 (by decide) ?_
    refine V_iadd (pc := 2129) dL_law_2129 ?_
    refine J_ld (pc := 2130) (j := i + 1) dL_law_2130 hq hs (nI_add i 1) (by omega) hL ?_
    refine V_aload_n (pc := 2131) (i := 0) dL_law_2131 rfl rfl ?_
    refine V_iload (pc := 2132) dL_law_2132 rfl ?_
    refine V_iconst (pc := 2134) (v := 2) dL_law_2134 (by decide) ?_
    refine V_iadd (pc := 2135) dL_law_2135 ?_
    refine J_ld (pc := 2136) (j := i + 2) dL_law_2136 hq hs (nI_add i 2) (by omega) hL ?_
    refine J_M (pc := 2137) dL_law_2137 cL_248 (fun h0 => kM G (b + 68) 80 h0 (by omega) (by omega)) rfl (Nat.le_of_ble_eq_true rfl) rfl (by omega) (Nat.le_of_ble_eq_true rfl) (fun v1 T1 hp => ?_)
    obtain ⟨e1, e2, e3⟩ := hp
    subst e1
    refine V_istore (pc := 2140) dL_law_2140 (by decide) rfl ?_
    refine V_aload_n (pc := 2142) (i := 2) dL_law_2142 rfl rfl ?_
    refine J_M (pc := 2143) dL_law_2143 cL_139 (J_thrown e2) rfl (Nat.le_of_ble_eq_true rfl) rfl (by omega) (Nat.le_of_ble_eq_true rfl) (fun v2 T2 hp => ?_)
    obtain ⟨r1, r2⟩ := hp
    subst r1; subst r2
    refine V_iload (pc := 2146) dL_law_2146 rfl ?_
    refine V_icmp_eq (pc := 2148) 2153 dL_law_2148 rfl (fun _ => ?_) (fun q => absurd rfl q)
    refine V_iload (pc := 2153) dL_law_2153 rfl ?_
    refine V_if_ne (pc := 2155) 2170 dL_law_2155 rfl (fun q => absurd rfl q) (fun _ => ?_)
    refine V_aload_n (pc := 2158) (i := 3) dL_law_2158 rfl rfl ?_
    refine V_iconst (pc := 2159) (v := 0) dL_law_2159 (by decide) ?_
    refine J_lald (pc := 2160) dL_law_2160 updL0 ?_
    refine V_iload (pc := 2161) dL_law_2161 rfl ?_
    refine V_i2l (pc := 2163) dL_law_2163 rfl ?_
    refine V_lcmp (pc := 2164) dL_law_2164 ?_
    rw [cmp_0]
    refine V_if_eq (pc := 2165) 2170 dL_law_2165 rfl (fun _ => ?_) (fun q => absurd rfl q)
    refine V_goto (pc := 2170) 2780 dL_law_2170 rfl ?_
    exact V_bud (by omega) (by omega) (nxt _ _ _ _ _ _ e3)
  · refine V_aload_n (pc := 2105) (i := 1) dL_law_2105 rfl rfl ?_
    refine V_aload_n (pc := 2106) (i := 0) dL_law_2106 rfl rfl ?_
    refine V_iload (pc := 2107) dL_law_2107 rfl ?_
    refine V_iconst (pc := 2109) (v := 1) dL_law_2109 (by decide) ?_
    refine V_iadd (pc := 2110) dL_law_2110 ?_
    refine J_ld (pc := 2111) (j := i + 1) dL_law_2111 hq hs (nI_add i 1) (by omega) hL ?_
    refine V_aload_n (pc := 2112) (i := 0) dL_law_2112 rfl rfl ?_
    refine V_iload (pc := 2113) dL_law_2113 rfl ?_
    refine V_iconst (pc := 2115) (v := 2) dL_law_2115 (by decide) ?_
    refine V_iadd (pc := 2116) dL_law_2116 ?_
    refine J_ld (pc := 2117) (j := i + 2) dL_law_2117 hq hs (nI_add i 2) (by omega) hL ?_
    refine V_aload_n (pc := 2118) (i := 3) dL_law_2118 rfl rfl ?_
    refine J_Sth (pc := 2119) (bc := m) (bs := 6 * m) dL_law_2119 cL_246 (L_toDeny_NSE (d := 90) (fun h0 => kC G b 80 h0 hb (by omega)) hb (by omega)) rfl (Nat.le_of_ble_eq_true rfl) rfl (by omega) (Nat.le_of_ble_eq_true rfl) (fun y1 => ?_)
    refine V_istore (pc := 2122) dL_law_2122 (by decide) rfl ?_
    refine V_aload_n (pc := 2124) (i := 2) dL_law_2124 rfl rfl ?_
    refine V_aload_n (pc := 2125) (i := 0) dL_law_2125 rfl rfl ?_
    refine V_iload (pc := 2126) dL_law_2126 rfl ?_
    refine V_iconst (pc := 2128) (v := 1) dL_law_2128 (by decide) ?_
    refine V_iadd (pc := 2129) dL_law_2129 ?_
    refine J_ld (pc := 2130) (j := i + 1) dL_law_2130 hq hs (nI_add i 1) (by omega) hL ?_
    refine V_aload_n (pc := 2131) (i := 0) dL_law_2131 rfl rfl ?_
    refine V_iload (pc := 2132) dL_law_2132 rfl ?_
    refine V_iconst (pc := 2134) (v := 2) dL_law_2134 (by decide) ?_
    refine V_iadd (pc := 2135) dL_law_2135 ?_
    refine J_ld (pc := 2136) (j := i + 2) dL_law_2136 hq hs (nI_add i 2) (by omega) hL ?_
    refine J_M (pc := 2137) dL_law_2137 cL_248 (fun h0 => kM G (b + 68) 80 h0 (by omega) (by omega)) rfl (Nat.le_of_ble_eq_true rfl) rfl (by omega) (Nat.le_of_ble_eq_true rfl) (fun v1 T1 hp => ?_)
    obtain ⟨e1, e2, e3⟩ := hp
    subst e1
    refine V_istore (pc := 2140) dL_law_2140 (by decide) rfl ?_
    refine V_aload_n (pc := 2142) (i := 2) dL_law_2142 rfl rfl ?_
    refine J_M (pc := 2143) dL_law_2143 cL_139 (J_thrown e2) rfl (Nat.le_of_ble_eq_true rfl) rfl (by omega) (Nat.le_of_ble_eq_true rfl) (fun v2 T2 hp => ?_)
    obtain ⟨r1, r2⟩ := hp
    subst r1; subst r2
    refine V_iload (pc := 2146) dL_law_2146 rfl ?_
    refine V_icmp_eq (pc := 2148) 2153 dL_law_2148 rfl (fun _ => ?_) (fun q => absurd rfl q)
    refine V_iload (pc := 2153) dL_law_2153 rfl ?_
    refine V_if_ne (pc := 2155) 2170 dL_law_2155 rfl (fun _ => ?_) (fun q => absurd q (by decide))
    refine V_goto (pc := 2170) 2780 dL_law_2170 rfl ?_
    exact V_bud (by omega) (by omega) (nxt _ _ _ _ _ _ e3)
  · refine V_aload_n (pc := 2105) (i := 1) dL_law_2105 rfl rfl ?_
    refine V_aload_n (pc := 2106) (i := 0) dL_law_2106 rfl rfl ?_
    refine V_iload (pc := 2107) dL_law_2107 rfl ?_
    refine V_iconst (pc := 2109) (v := 1) dL_law_2109 (by decide) ?_
    refine V_iadd (pc := 2110) dL_law_2110 ?_
    refine J_ld (pc := 2111) (j := i + 1) dL_law_2111 hq hs (nI_add i 1) (by omega) hL ?_
    refine V_aload_n (pc := 2112) (i := 0) dL_law_2112 rfl rfl ?_
    refine V_iload (pc := 2113) dL_law_2113 rfl ?_
    refine V_iconst (pc := 2115) (v := 2) dL_law_2115 (by decide) ?_
    refine V_iadd (pc := 2116) dL_law_2116 ?_
    refine J_ld (pc := 2117) (j := i + 2) dL_law_2117 hq hs (nI_add i 2) (by omega) hL ?_
    refine V_aload_n (pc := 2118) (i := 3) dL_law_2118 rfl rfl ?_
    refine J_Sth (pc := 2119) (bc := m) (bs := 6 * m) dL_law_2119 cL_246 (L_toDeny_IAE (d := 90) (fun h0 => kC G b 80 h0 hb (by omega)) hb (by omega)) rfl (Nat.le_of_ble_eq_true rfl) rfl (by omega) (Nat.le_of_ble_eq_true rfl) (fun y1 => ?_)
    refine V_istore (pc := 2122) dL_law_2122 (by decide) rfl ?_
    refine V_aload_n (pc := 2124) (i := 2) dL_law_2124 rfl rfl ?_
    refine V_aload_n (pc := 2125) (i := 0) dL_law_2125 rfl rfl ?_
    refine V_iload (pc := 2126) dL_law_2126 rfl ?_
    refine V_iconst (pc := 2128) (v := 1) dL_law_2128 (by decide) ?_
    refine V_iadd (pc := 2129) dL_law_2129 ?_
    refine J_ld (pc := 2130) (j := i + 1) dL_law_2130 hq hs (nI_add i 1) (by omega) hL ?_
    refine V_aload_n (pc := 2131) (i := 0) dL_law_2131 rfl rfl ?_
    refine V_iload (pc := 2132) dL_law_2132 rfl ?_
    refine V_iconst (pc := 2134) (v := 2) dL_law_2134 (by decide) ?_
    refine V_iadd (pc := 2135) dL_law_2135 ?_
    refine J_ld (pc := 2136) (j := i + 2) dL_law_2136 hq hs (nI_add i 2) (by omega) hL ?_
    refine J_M (pc := 2137) dL_law_2137 cL_248 (fun h0 => kM G (b + 68) 80 h0 (by omega) (by omega)) rfl (Nat.le_of_ble_eq_true rfl) rfl (by omega) (Nat.le_of_ble_eq_true rfl) (fun v1 T1 hp => ?_)
    obtain ⟨e1, e2, e3⟩ := hp
    subst e1
    refine V_istore (pc := 2140) dL_law_2140 (by decide) rfl ?_
    refine V_aload_n (pc := 2142) (i := 2) dL_law_2142 rfl rfl ?_
    refine J_M (pc := 2143) dL_law_2143 cL_139 (J_thrown e2) rfl (Nat.le_of_ble_eq_true rfl) rfl (by omega) (Nat.le_of_ble_eq_true rfl) (fun v2 T2 hp => ?_)
    obtain ⟨r1, r2⟩ := hp
    subst r1; subst r2
    refine V_iload (pc := 2146) dL_law_2146 rfl ?_
    refine V_icmp_eq (pc := 2148) 2153 dL_law_2148 rfl (fun _ => ?_) (fun q => absurd rfl q)
    refine V_iload (pc := 2153) dL_law_2153 rfl ?_
    refine V_if_ne (pc := 2155) 2170 dL_law_2155 rfl (fun _ => ?_) (fun q => absurd q (by decide))
    refine V_goto (pc := 2170) 2780 dL_law_2170 rfl ?_
    exact V_bud (by omega) (by omega) (nxt _ _ _ _ _ _ e3)
theorem law_sources {i m q L : Nat} {xs : Nat → Int32} (hq : gV G 100 = q) (hs : gV G 101 = L ∧ ∀ j, nI (gV G (1000 + j)) = xs j) (hL : L ≤ 3072) (hi : i + 6 ≤ L) (hb : gB G ≤ b) (hd : 100 ≤ d) (rel : REL S T) (nxt : ∀ S' T' fo' y' l5 l6, REL S' T' → V G mL_law d m (6 * m) Q 2780 [some (.ref q), some (.ref (b + 0)), some (.ref (b + 68 + 0)), some (.ref (b + 68 + 35)), some (.int (nI i)), l5, l6] [] (jH G b S' T' fo' hS y')) : V G mL_law d (m + 1) (6 * m + 6) Q 2173 [some (.ref q), some (.ref (b + 0)), some (.ref (b + 68 + 0)), some (.ref (b + 68 + 35)), some (.int (nI i)), none, none] [] (jH G b S T fo hS y) := by
  rcases pr_sources rel (xs (i + 1)) with ⟨v, S1, kC, kM⟩ | ⟨kC, kM⟩
  · refine V_aload_n (pc := 2173) (i := 1) dL_law_2173 rfl rfl ?_
    refine V_aload_n (pc := 2174) (i := 0) dL_law_2174 rfl rfl ?_
    refine V_iload (pc := 2175) dL_law_2175 rfl ?_
    refine V_iconst (pc := 2177) (v := 1) dL_law_2177 (by decide) ?_
    refine V_iadd (pc := 2178) dL_law_2178 ?_
    refine J_ld (pc := 2179) (j := i + 1) dL_law_2179 hq hs (nI_add i 1) (by omega) hL ?_
    refine V_aload_n (pc := 2180) (i := 3) dL_law_2180 rfl rfl ?_
    refine J_S (pc := 2181) dL_law_2181 cL_249 (L_sources_ok (d := 90) (fun h0 => kC G b 80 h0 hb (by omega)) hb (by omega)) rfl (Nat.le_of_ble_eq_true rfl) rfl (by omega) (Nat.le_of_ble_eq_true rfl) ?_
    refine V_istore (pc := 2184) dL_law_2184 (by decide) rfl ?_
    refine V_aload_n (pc := 2186) (i := 2) dL_law_2186 rfl rfl ?_
    refine V_aload_n (pc := 2187) (i := 0) dL_law_2187 rfl rfl ?_
    refine V_iload (pc := 2188) dL_law_2188 rfl ?_
    refine V_iconst (pc := 2190) (v := 1) dL_law_2190 (by decide) ?_
    refine V_iadd (pc := 2191) dL_law_2191 ?_
    refine J_ld (pc := 2192) (j := i + 1) dL_law_2192 hq hs (nI_add i 1) (by omega) hL ?_
    refine J_M (pc := 2193) dL_law_2193 cL_251 (fun h0 => kM G (b + 68) 80 h0 (by omega) (by omega)) rfl (Nat.le_of_ble_eq_true rfl) rfl (by omega) (Nat.le_of_ble_eq_true rfl) (fun v1 T1 hp => ?_)
    obtain ⟨e1, e2, e3⟩ := hp
    subst e1
    refine V_istore (pc := 2196) dL_law_2196 (by decide) rfl ?_
    refine V_aload_n (pc := 2198) (i := 2) dL_law_2198 rfl rfl ?_
    refine J_M (pc := 2199) dL_law_2199 cL_139 (J_thrown e2) rfl (Nat.le_of_ble_eq_true rfl) rfl (by omega) (Nat.le_of_ble_eq_true rfl) (fun v2 T2 hp => ?_)
    obtain ⟨r1, r2⟩ := hp
    subst r1; subst r2
    refine V_iload (pc := 2202) dL_law_2202 rfl ?_
    refine V_icmp_eq (pc := 2204) 2209 dL_law_2204 rfl (fun _ => ?_) (fun q => absurd rfl q)
    refine V_iload (pc := 2209) dL_law_2209 rfl ?_
    refine V_if_ne (pc := 2211) 2226 dL_law_2211 rfl (fun q => absurd rfl q) (fun _ => ?_)
    refine V_aload_n (pc := 2214) (i := 3) dL_law_2214 rfl rfl ?_
    refine V_iconst (pc := 2215) (v := 0) dL_law_2215 (by decide) ?_
    refine J_lald (pc := 2216) dL_law_2216 updL0 ?_
    refine V_iload (pc := 2217) dL_law_2217 rfl ?_
    refine V_i2l (pc := 2219) dL_law_2219 rfl ?_
    refine V_lcmp (pc := 2220) dL_law_2220 ?_
    rw [cmp_0]
    refine V_if_eq (pc := 2221) 2226 dL_law_2221 rfl (fun _ => ?_) (fun q => absurd rfl q)
    refine V_goto (pc := 2226) 2780 dL_law_2226 rfl ?_
    exact V_bud (by omega) (by omega) (nxt _ _ _ _ _ _ e3)
  · refine V_aload_n (pc := 2173) (i := 1) dL_law_2173 rfl rfl ?_
    refine V_aload_n (pc := 2174) (i := 0) dL_law_2174 rfl rfl ?_
    refine V_iload (pc := 2175) dL_law_2175 rfl ?_
    refine V_iconst (pc := 2177) (v := 1) dL_law_2177 (by decide) ?_
    refine V_iadd (pc := 2178) dL_law_2178 ?_
    refine J_ld (pc := 2179) (j := i + 1) dL_law_2179 hq hs (nI_add i 1) (by omega) hL ?_
    refine V_aload_n (pc := 2180) (i := 3) dL_law_2180 rfl rfl ?_
    refine J_Sth (pc := 2181) (bc := m) (bs := 6 * m) dL_law_2181 cL_249 (L_sources_NSE (d := 90) (fun h0 => kC G b 80 h0 hb (by omega)) hb (by omega)) rfl (Nat.le_of_ble_eq_true rfl) rfl (by omega) (Nat.le_of_ble_eq_true rfl) (fun y1 => ?_)
    refine V_istore (pc := 2184) dL_law_2184 (by decide) rfl ?_
    refine V_aload_n (pc := 2186) (i := 2) dL_law_2186 rfl rfl ?_
    refine V_aload_n (pc := 2187) (i := 0) dL_law_2187 rfl rfl ?_
    refine V_iload (pc := 2188) dL_law_2188 rfl ?_
    refine V_iconst (pc := 2190) (v := 1) dL_law_2190 (by decide) ?_
    refine V_iadd (pc := 2191) dL_law_2191 ?_
    refine J_ld (pc := 2192) (j := i + 1) dL_law_2192 hq hs (nI_add i 1) (by omega) hL ?_
    refine J_M (pc := 2193) dL_law_2193 cL_251 (fun h0 => kM G (b + 68) 80 h0 (by omega) (by omega)) rfl (Nat.le_of_ble_eq_true rfl) rfl (by omega) (Nat.le_of_ble_eq_true rfl) (fun v1 T1 hp => ?_)
    obtain ⟨e1, e2, e3⟩ := hp
    subst e1
    refine V_istore (pc := 2196) dL_law_2196 (by decide) rfl ?_
    refine V_aload_n (pc := 2198) (i := 2) dL_law_2198 rfl rfl ?_
    refine J_M (pc := 2199) dL_law_2199 cL_139 (J_thrown e2) rfl (Nat.le_of_ble_eq_true rfl) rfl (by omega) (Nat.le_of_ble_eq_true rfl) (fun v2 T2 hp => ?_)
    obtain ⟨r1, r2⟩ := hp
    subst r1; subst r2
    refine V_iload (pc := 2202) dL_law_2202 rfl ?_
    refine V_icmp_eq (pc := 2204) 2209 dL_law_2204 rfl (fun _ => ?_) (fun q => absurd rfl q)
    refine V_iload (pc := 2209) dL_law_2209 rfl ?_
    refine V_if_ne (pc := 2211) 2226 dL_law_2211 rfl (fun _ => ?_) (fun q => absurd q (by decide))
    refine V_goto (pc := 2226) 2780 dL_law_2226 rfl ?_
    exact V_bud (by omega) (by omega) (nxt _ _ _ _ _ _ e3)
theorem law_times {i m q L : Nat} {xs : Nat → Int32} (hq : gV G 100 = q) (hs : gV G 101 = L ∧ ∀ j, nI (gV G (1000 + j)) = xs j) (hL : L ≤ 3072) (hi : i + 6 ≤ L) (hb : gB G ≤ b) (hd : 100 ≤ d) (rel : REL S T) (nxt : ∀ S' T' fo' y' l5 l6, REL S' T' → V G mL_law d m (6 * m) Q 2780 [some (.ref q), some (.ref (b + 0)), some (.ref (b + 68 + 0)), some (.ref (b + 68 + 35)), some (.int (nI i)), l5, l6] [] (jH G b S' T' fo' hS y')) : V G mL_law d (m + 1) (6 * m + 6) Q 2229 [some (.ref q), some (.ref (b + 0)), some (.ref (b + 68 + 0)), some (.ref (b + 68 + 35)), some (.int (nI i)), none, none] [] (jH G b S T fo hS y) := by
  rcases pr_times rel (xs (i + 1)) (xs (i + 2)) with ⟨v, S1, kC, kM⟩ | ⟨kC, kM⟩ | ⟨kC, kM⟩
  · refine V_aload_n (pc := 2229) (i := 1) dL_law_2229 rfl rfl ?_
    refine V_aload_n (pc := 2230) (i := 0) dL_law_2230 rfl rfl ?_
    refine V_iload (pc := 2231) dL_law_2231 rfl ?_
    refine V_iconst (pc := 2233) (v := 1) dL_law_2233 (by decide) ?_
    refine V_iadd (pc := 2234) dL_law_2234 ?_
    refine J_ld (pc := 2235) (j := i + 1) dL_law_2235 hq hs (nI_add i 1) (by omega) hL ?_
    refine V_aload_n (pc := 2236) (i := 0) dL_law_2236 rfl rfl ?_
    refine V_iload (pc := 2237) dL_law_2237 rfl ?_
    refine V_iconst (pc := 2239) (v := 2) dL_law_2239 (by decide) ?_
    refine V_iadd (pc := 2240) dL_law_2240 ?_
    refine J_ld (pc := 2241) (j := i + 2) dL_law_2241 hq hs (nI_add i 2) (by omega) hL ?_
    refine V_aload_n (pc := 2242) (i := 3) dL_law_2242 rfl rfl ?_
    refine J_S (pc := 2243) dL_law_2243 cL_252 (L_times_ok (d := 90) (fun h0 => kC G b 80 h0 hb (by omega)) hb (by omega)) rfl (Nat.le_of_ble_eq_true rfl) rfl (by omega) (Nat.le_of_ble_eq_true rfl) ?_
    refine V_istore (pc := 2246) dL_law_2246 (by decide) rfl ?_
    refine V_aload_n (pc := 2248) (i := 2) dL_law_2248 rfl rfl ?_
    refine V_aload_n (pc := 2249) (i := 0) dL_law_2249 rfl rfl ?_
    refine V_iload (pc := 2250) dL_law_2250 rfl ?_
    refine V_iconst (pc := 2252) (v := 1) dL_law_2252 (by decide) ?_
    refine V_iadd (pc := 2253) dL_law_2253 ?_
    refine J_ld (pc := 2254) (j := i + 1) dL_law_2254 hq hs (nI_add i 1) (by omega) hL ?_
    refine V_aload_n (pc := 2255) (i := 0) dL_law_2255 rfl rfl ?_
    refine V_iload (pc := 2256) dL_law_2256 rfl ?_
    refine V_iconst (pc := 2258) (v := 2) dL_law_2258 (by decide) ?_
    refine V_iadd (pc := 2259) dL_law_2259 ?_
    refine J_ld (pc := 2260) (j := i + 2) dL_law_2260 hq hs (nI_add i 2) (by omega) hL ?_
    refine J_M (pc := 2261) dL_law_2261 cL_254 (fun h0 => kM G (b + 68) 80 h0 (by omega) (by omega)) rfl (Nat.le_of_ble_eq_true rfl) rfl (by omega) (Nat.le_of_ble_eq_true rfl) (fun v1 T1 hp => ?_)
    obtain ⟨e1, e2, e3⟩ := hp
    subst e1
    refine V_istore (pc := 2264) dL_law_2264 (by decide) rfl ?_
    refine V_aload_n (pc := 2266) (i := 2) dL_law_2266 rfl rfl ?_
    refine J_M (pc := 2267) dL_law_2267 cL_139 (J_thrown e2) rfl (Nat.le_of_ble_eq_true rfl) rfl (by omega) (Nat.le_of_ble_eq_true rfl) (fun v2 T2 hp => ?_)
    obtain ⟨r1, r2⟩ := hp
    subst r1; subst r2
    refine V_iload (pc := 2270) dL_law_2270 rfl ?_
    refine V_icmp_eq (pc := 2272) 2277 dL_law_2272 rfl (fun _ => ?_) (fun q => absurd rfl q)
    refine V_iload (pc := 2277) dL_law_2277 rfl ?_
    refine V_if_ne (pc := 2279) 2294 dL_law_2279 rfl (fun q => absurd rfl q) (fun _ => ?_)
    refine V_aload_n (pc := 2282) (i := 3) dL_law_2282 rfl rfl ?_
    refine V_iconst (pc := 2283) (v := 0) dL_law_2283 (by decide) ?_
    refine J_lald (pc := 2284) dL_law_2284 updL0 ?_
    refine V_iload (pc := 2285) dL_law_2285 rfl ?_
    refine V_i2l (pc := 2287) dL_law_2287 rfl ?_
    refine V_lcmp (pc := 2288) dL_law_2288 ?_
    rw [cmp_0]
    refine V_if_eq (pc := 2289) 2294 dL_law_2289 rfl (fun _ => ?_) (fun q => absurd rfl q)
    refine V_goto (pc := 2294) 2780 dL_law_2294 rfl ?_
    exact V_bud (by omega) (by omega) (nxt _ _ _ _ _ _ e3)
  · refine V_aload_n (pc := 2229) (i := 1) dL_law_2229 rfl rfl ?_
    refine V_aload_n (pc := 2230) (i := 0) dL_law_2230 rfl rfl ?_
    refine V_iload (pc := 2231) dL_law_2231 rfl ?_
    refine V_iconst (pc := 2233) (v := 1) dL_law_2233 (by decide) ?_
    refine V_iadd (pc := 2234) dL_law_2234 ?_
    refine J_ld (pc := 2235) (j := i + 1) dL_law_2235 hq hs (nI_add i 1) (by omega) hL ?_
    refine V_aload_n (pc := 2236) (i := 0) dL_law_2236 rfl rfl ?_
    refine V_iload (pc := 2237) dL_law_2237 rfl ?_
    refine V_iconst (pc := 2239) (v := 2) dL_law_2239 (by decide) ?_
    refine V_iadd (pc := 2240) dL_law_2240 ?_
    refine J_ld (pc := 2241) (j := i + 2) dL_law_2241 hq hs (nI_add i 2) (by omega) hL ?_
    refine V_aload_n (pc := 2242) (i := 3) dL_law_2242 rfl rfl ?_
    refine J_Sth (pc := 2243) (bc := m) (bs := 6 * m) dL_law_2243 cL_252 (L_times_NSE (d := 90) (fun h0 => kC G b 80 h0 hb (by omega)) hb (by omega)) rfl (Nat.le_of_ble_eq_true rfl) rfl (by omega) (Nat.le_of_ble_eq_true rfl) (fun y1 => ?_)
    refine V_istore (pc := 2246) dL_law_2246 (by decide) rfl ?_
    refine V_aload_n (pc := 2248) (i := 2) dL_law_2248 rfl rfl ?_
    refine V_aload_n (pc := 2249) (i := 0) dL_law_2249 rfl rfl ?_
    refine V_iload (pc := 2250) dL_law_2250 rfl ?_
    refine V_iconst (pc := 2252) (v := 1) dL_law_2252 (by decide) ?_
    refine V_iadd (pc := 2253) dL_law_2253 ?_
    refine J_ld (pc := 2254) (j := i + 1) dL_law_2254 hq hs (nI_add i 1) (by omega) hL ?_
    refine V_aload_n (pc := 2255) (i := 0) dL_law_2255 rfl rfl ?_
    refine V_iload (pc := 2256) dL_law_2256 rfl ?_
    refine V_iconst (pc := 2258) (v := 2) dL_law_2258 (by decide) ?_
    refine V_iadd (pc := 2259) dL_law_2259 ?_
    refine J_ld (pc := 2260) (j := i + 2) dL_law_2260 hq hs (nI_add i 2) (by omega) hL ?_
    refine J_M (pc := 2261) dL_law_2261 cL_254 (fun h0 => kM G (b + 68) 80 h0 (by omega) (by omega)) rfl (Nat.le_of_ble_eq_true rfl) rfl (by omega) (Nat.le_of_ble_eq_true rfl) (fun v1 T1 hp => ?_)
    obtain ⟨e1, e2, e3⟩ := hp
    subst e1
    refine V_istore (pc := 2264) dL_law_2264 (by decide) rfl ?_
    refine V_aload_n (pc := 2266) (i := 2) dL_law_2266 rfl rfl ?_
    refine J_M (pc := 2267) dL_law_2267 cL_139 (J_thrown e2) rfl (Nat.le_of_ble_eq_true rfl) rfl (by omega) (Nat.le_of_ble_eq_true rfl) (fun v2 T2 hp => ?_)
    obtain ⟨r1, r2⟩ := hp
    subst r1; subst r2
    refine V_iload (pc := 2270) dL_law_2270 rfl ?_
    refine V_icmp_eq (pc := 2272) 2277 dL_law_2272 rfl (fun _ => ?_) (fun q => absurd rfl q)
    refine V_iload (pc := 2277) dL_law_2277 rfl ?_
    refine V_if_ne (pc := 2279) 2294 dL_law_2279 rfl (fun _ => ?_) (fun q => absurd q (by decide))
    refine V_goto (pc := 2294) 2780 dL_law_2294 rfl ?_
    exact V_bud (by omega) (by omega) (nxt _ _ _ _ _ _ e3)
  · refine V_aload_n (pc := 2229) (i := 1) dL_law_2229 rfl rfl ?_
    refine V_aload_n (pc := 2230) (i := 0) dL_law_2230 rfl rfl ?_
    refine V_iload (pc := 2231) dL_law_2231 rfl ?_
    refine V_iconst (pc := 2233) (v := 1) dL_law_2233 (by decide) ?_
    refine V_iadd (pc := 2234) dL_law_2234 ?_
    refine J_ld (pc := 2235) (j := i + 1) dL_law_2235 hq hs (nI_add i 1) (by omega) hL ?_
    refine V_aload_n (pc := 2236) (i := 0) dL_law_2236 rfl rfl ?_
    refine V_iload (pc := 2237) dL_law_2237 rfl ?_
    refine V_iconst (pc := 2239) (v := 2) dL_law_2239 (by decide) ?_
    refine V_iadd (pc := 2240) dL_law_2240 ?_
    refine J_ld (pc := 2241) (j := i + 2) dL_law_2241 hq hs (nI_add i 2) (by omega) hL ?_
    refine V_aload_n (pc := 2242) (i := 3) dL_law_2242 rfl rfl ?_
    refine J_Sth (pc := 2243) (bc := m) (bs := 6 * m) dL_law_2243 cL_252 (L_times_IAE (d := 90) (fun h0 => kC G b 80 h0 hb (by omega)) hb (by omega)) rfl (Nat.le_of_ble_eq_true rfl) rfl (by omega) (Nat.le_of_ble_eq_true rfl) (fun y1 => ?_)
    refine V_istore (pc := 2246) dL_law_2246 (by decide) rfl ?_
    refine V_aload_n (pc := 2248) (i := 2) dL_law_2248 rfl rfl ?_
    refine V_aload_n (pc := 2249) (i := 0) dL_law_2249 rfl rfl ?_
    refine V_iload (pc := 2250) dL_law_2250 rfl ?_
    refine V_iconst (pc := 2252) (v := 1) dL_law_2252 (by decide) ?_
    refine V_iadd (pc := 2253) dL_law_2253 ?_
    refine J_ld (pc := 2254) (j := i + 1) dL_law_2254 hq hs (nI_add i 1) (by omega) hL ?_
    refine V_aload_n (pc := 2255) (i := 0) dL_law_2255 rfl rfl ?_
    refine V_iload (pc := 2256) dL_law_2256 rfl ?_
    refine V_iconst (pc := 2258) (v := 2) dL_law_2258 (by decide) ?_
    refine V_iadd (pc := 2259) dL_law_2259 ?_
    refine J_ld (pc := 2260) (j := i + 2) dL_law_2260 hq hs (nI_add i 2) (by omega) hL ?_
    refine J_M (pc := 2261) dL_law_2261 cL_254 (fun h0 => kM G (b + 68) 80 h0 (by omega) (by omega)) rfl (Nat.le_of_ble_eq_true rfl) rfl (by omega) (Nat.le_of_ble_eq_true rfl) (fun v1 T1 hp => ?_)
    obtain ⟨e1, e2, e3⟩ := hp
    subst e1
    refine V_istore (pc := 2264) dL_law_2264 (by decide) rfl ?_
    refine V_aload_n (pc := 2266) (i := 2) dL_law_2266 rfl rfl ?_
    refine J_M (pc := 2267) dL_law_2267 cL_139 (J_thrown e2) rfl (Nat.le_of_ble_eq_true rfl) rfl (by omega) (Nat.le_of_ble_eq_true rfl) (fun v2 T2 hp => ?_)
    obtain ⟨r1, r2⟩ := hp
    subst r1; subst r2
    refine V_iload (pc := 2270) dL_law_2270 rfl ?_
    refine V_icmp_eq (pc := 2272) 2277 dL_law_2272 rfl (fun _ => ?_) (fun q => absurd rfl q)
    refine V_iload (pc := 2277) dL_law_2277 rfl ?_
    refine V_if_ne (pc := 2279) 2294 dL_law_2279 rfl (fun _ => ?_) (fun q => absurd q (by decide))
    refine V_goto (pc := 2294) 2780 dL_law_2294 rfl ?_
    exact V_bud (by omega) (by omega) (nxt _ _ _ _ _ _ e3)
theorem law_fullest {i m q L : Nat} {xs : Nat → Int32} (hq : gV G 100 = q) (hs : gV G 101 = L ∧ ∀ j, nI (gV G (1000 + j)) = xs j) (hL : L ≤ 3072) (hi : i + 6 ≤ L) (hb : gB G ≤ b) (hd : 100 ≤ d) (rel : REL S T) (nxt : ∀ S' T' fo' y' l5 l6, REL S' T' → V G mL_law d m (6 * m) Q 2780 [some (.ref q), some (.ref (b + 0)), some (.ref (b + 68 + 0)), some (.ref (b + 68 + 35)), some (.int (nI i)), l5, l6] [] (jH G b S' T' fo' hS y')) : V G mL_law d (m + 1) (6 * m + 6) Q 2297 [some (.ref q), some (.ref (b + 0)), some (.ref (b + 68 + 0)), some (.ref (b + 68 + 35)), some (.int (nI i)), none, none] [] (jH G b S T fo hS y) := by
  rcases pr_fullest rel (xs (i + 1)) (xs (i + 2)) with ⟨v, S1, kC, kM⟩ | ⟨kC, kM⟩ | ⟨kC, kM⟩
  · refine V_aload_n (pc := 2297) (i := 1) dL_law_2297 rfl rfl ?_
    refine V_aload_n (pc := 2298) (i := 0) dL_law_2298 rfl rfl ?_
    refine V_iload (pc := 2299) dL_law_2299 rfl ?_
    refine V_iconst (pc := 2301) (v := 1) dL_law_2301 (by decide) ?_
    refine V_iadd (pc := 2302) dL_law_2302 ?_
    refine J_ld (pc := 2303) (j := i + 1) dL_law_2303 hq hs (nI_add i 1) (by omega) hL ?_
    refine V_aload_n (pc := 2304) (i := 0) dL_law_2304 rfl rfl ?_
    refine V_iload (pc := 2305) dL_law_2305 rfl ?_
    refine V_iconst (pc := 2307) (v := 2) dL_law_2307 (by decide) ?_
    refine V_iadd (pc := 2308) dL_law_2308 ?_
    refine J_ld (pc := 2309) (j := i + 2) dL_law_2309 hq hs (nI_add i 2) (by omega) hL ?_
    refine V_aload_n (pc := 2310) (i := 3) dL_law_2310 rfl rfl ?_
    refine J_S (pc := 2311) dL_law_2311 cL_255 (L_fullest_ok (d := 90) (fun h0 => kC G b 80 h0 hb (by omega)) hb (by omega)) rfl (Nat.le_of_ble_eq_true rfl) rfl (by omega) (Nat.le_of_ble_eq_true rfl) ?_
    refine V_istore (pc := 2314) dL_law_2314 (by decide) rfl ?_
    refine V_aload_n (pc := 2316) (i := 2) dL_law_2316 rfl rfl ?_
    refine V_aload_n (pc := 2317) (i := 0) dL_law_2317 rfl rfl ?_
    refine V_iload (pc := 2318) dL_law_2318 rfl ?_
    refine V_iconst (pc := 2320) (v := 1) dL_law_2320 (by decide) ?_
    refine V_iadd (pc := 2321) dL_law_2321 ?_
    refine J_ld (pc := 2322) (j := i + 1) dL_law_2322 hq hs (nI_add i 1) (by omega) hL ?_
    refine V_aload_n (pc := 2323) (i := 0) dL_law_2323 rfl rfl ?_
    refine V_iload (pc := 2324) dL_law_2324 rfl ?_
    refine V_iconst (pc := 2326) (v := 2) dL_law_2326 (by decide) ?_
    refine V_iadd (pc := 2327) dL_law_2327 ?_
    refine J_ld (pc := 2328) (j := i + 2) dL_law_2328 hq hs (nI_add i 2) (by omega) hL ?_
    refine J_M (pc := 2329) dL_law_2329 cL_257 (fun h0 => kM G (b + 68) 80 h0 (by omega) (by omega)) rfl (Nat.le_of_ble_eq_true rfl) rfl (by omega) (Nat.le_of_ble_eq_true rfl) (fun v1 T1 hp => ?_)
    obtain ⟨e1, e2, e3⟩ := hp
    subst e1
    refine V_istore (pc := 2332) dL_law_2332 (by decide) rfl ?_
    refine V_aload_n (pc := 2334) (i := 2) dL_law_2334 rfl rfl ?_
    refine J_M (pc := 2335) dL_law_2335 cL_139 (J_thrown e2) rfl (Nat.le_of_ble_eq_true rfl) rfl (by omega) (Nat.le_of_ble_eq_true rfl) (fun v2 T2 hp => ?_)
    obtain ⟨r1, r2⟩ := hp
    subst r1; subst r2
    refine V_iload (pc := 2338) dL_law_2338 rfl ?_
    refine V_icmp_eq (pc := 2340) 2345 dL_law_2340 rfl (fun _ => ?_) (fun q => absurd rfl q)
    refine V_iload (pc := 2345) dL_law_2345 rfl ?_
    refine V_if_ne (pc := 2347) 2362 dL_law_2347 rfl (fun q => absurd rfl q) (fun _ => ?_)
    refine V_aload_n (pc := 2350) (i := 3) dL_law_2350 rfl rfl ?_
    refine V_iconst (pc := 2351) (v := 0) dL_law_2351 (by decide) ?_
    refine J_lald (pc := 2352) dL_law_2352 updL0 ?_
    refine V_iload (pc := 2353) dL_law_2353 rfl ?_
    refine V_i2l (pc := 2355) dL_law_2355 rfl ?_
    refine V_lcmp (pc := 2356) dL_law_2356 ?_
    rw [cmp_0]
    refine V_if_eq (pc := 2357) 2362 dL_law_2357 rfl (fun _ => ?_) (fun q => absurd rfl q)
    refine V_goto (pc := 2362) 2780 dL_law_2362 rfl ?_
    exact V_bud (by omega) (by omega) (nxt _ _ _ _ _ _ e3)
  · refine V_aload_n (pc := 2297) (i := 1) dL_law_2297 rfl rfl ?_
    refine V_aload_n (pc := 2298) (i := 0) dL_law_2298 rfl rfl ?_
    refine V_iload (pc := 2299) dL_law_2299 rfl ?_
    refine V_iconst (pc := 2301) (v := 1) dL_law_2301 (by decide) ?_
    refine V_iadd (pc := 2302) dL_law_2302 ?_
    refine J_ld (pc := 2303) (j := i + 1) dL_law_2303 hq hs (nI_add i 1) (by omega) hL ?_
    refine V_aload_n (pc := 2304) (i := 0) dL_law_2304 rfl rfl ?_
    refine V_iload (pc := 2305) dL_law_2305 rfl ?_
    refine V_iconst (pc := 2307) (v := 2) dL_law_2307 (by decide) ?_
    refine V_iadd (pc := 2308) dL_law_2308 ?_
    refine J_ld (pc := 2309) (j := i + 2) dL_law_2309 hq hs (nI_add i 2) (by omega) hL ?_
    refine V_aload_n (pc := 2310) (i := 3) dL_law_2310 rfl rfl ?_
    refine J_Sth (pc := 2311) (bc := m) (bs := 6 * m) dL_law_2311 cL_255 (L_fullest_NSE (d := 90) (fun h0 => kC G b 80 h0 hb (by omega)) hb (by omega)) rfl (Nat.le_of_ble_eq_true rfl) rfl (by omega) (Nat.le_of_ble_eq_true rfl) (fun y1 => ?_)
    refine V_istore (pc := 2314) dL_law_2314 (by decide) rfl ?_
    refine V_aload_n (pc := 2316) (i := 2) dL_law_2316 rfl rfl ?_
    refine V_aload_n (pc := 2317) (i := 0) dL_law_2317 rfl rfl ?_
    refine V_iload (pc := 2318) dL_law_2318 rfl ?_
    refine V_iconst (pc := 2320) (v := 1) dL_law_2320 (by decide) ?_
    refine V_iadd (pc := 2321) dL_law_2321 ?_
    refine J_ld (pc := 2322) (j := i + 1) dL_law_2322 hq hs (nI_add i 1) (by omega) hL ?_
    refine V_aload_n (pc := 2323) (i := 0) dL_law_2323 rfl rfl ?_
    refine V_iload (pc := 2324) dL_law_2324 rfl ?_
    refine V_iconst (pc := 2326) (v := 2) dL_law_2326 (by decide) ?_
    refine V_iadd (pc := 2327) dL_law_2327 ?_
    refine J_ld (pc := 2328) (j := i + 2) dL_law_2328 hq hs (nI_add i 2) (by omega) hL ?_
    refine J_M (pc := 2329) dL_law_2329 cL_257 (fun h0 => kM G (b + 68) 80 h0 (by omega) (by omega)) rfl (Nat.le_of_ble_eq_true rfl) rfl (by omega) (Nat.le_of_ble_eq_true rfl) (fun v1 T1 hp => ?_)
    obtain ⟨e1, e2, e3⟩ := hp
    subst e1
    refine V_istore (pc := 2332) dL_law_2332 (by decide) rfl ?_
    refine V_aload_n (pc := 2334) (i := 2) dL_law_2334 rfl rfl ?_
    refine J_M (pc := 2335) dL_law_2335 cL_139 (J_thrown e2) rfl (Nat.le_of_ble_eq_true rfl) rfl (by omega) (Nat.le_of_ble_eq_true rfl) (fun v2 T2 hp => ?_)
    obtain ⟨r1, r2⟩ := hp
    subst r1; subst r2
    refine V_iload (pc := 2338) dL_law_2338 rfl ?_
    refine V_icmp_eq (pc := 2340) 2345 dL_law_2340 rfl (fun _ => ?_) (fun q => absurd rfl q)
    refine V_iload (pc := 2345) dL_law_2345 rfl ?_
    refine V_if_ne (pc := 2347) 2362 dL_law_2347 rfl (fun _ => ?_) (fun q => absurd q (by decide))
    refine V_goto (pc := 2362) 2780 dL_law_2362 rfl ?_
    exact V_bud (by omega) (by omega) (nxt _ _ _ _ _ _ e3)
  · refine V_aload_n (pc := 2297) (i := 1) dL_law_2297 rfl rfl ?_
    refine V_aload_n (pc := 2298) (i := 0) dL_law_2298 rfl rfl ?_
    refine V_iload (pc := 2299) dL_law_2299 rfl ?_
    refine V_iconst (pc := 2301) (v := 1) dL_law_2301 (by decide) ?_
    refine V_iadd (pc := 2302) dL_law_2302 ?_
    refine J_ld (pc := 2303) (j := i + 1) dL_law_2303 hq hs (nI_add i 1) (by omega) hL ?_
    refine V_aload_n (pc := 2304) (i := 0) dL_law_2304 rfl rfl ?_
    refine V_iload (pc := 2305) dL_law_2305 rfl ?_
    refine V_iconst (pc := 2307) (v := 2) dL_law_2307 (by decide) ?_
    refine V_iadd (pc := 2308) dL_law_2308 ?_
    refine J_ld (pc := 2309) (j := i + 2) dL_law_2309 hq hs (nI_add i 2) (by omega) hL ?_
    refine V_aload_n (pc := 2310) (i := 3) dL_law_2310 rfl rfl ?_
    refine J_Sth (pc := 2311) (bc := m) (bs := 6 * m) dL_law_2311 cL_255 (L_fullest_IAE (d := 90) (fun h0 => kC G b 80 h0 hb (by omega)) hb (by omega)) rfl (Nat.le_of_ble_eq_true rfl) rfl (by omega) (Nat.le_of_ble_eq_true rfl) (fun y1 => ?_)
    refine V_istore (pc := 2314) dL_law_2314 (by decide) rfl ?_
    refine V_aload_n (pc := 2316) (i := 2) dL_law_2316 rfl rfl ?_
    refine V_aload_n (pc := 2317) (i := 0) dL_law_2317 rfl rfl ?_
    refine V_iload (pc := 2318) dL_law_2318 rfl ?_
    refine V_iconst (pc := 2320) (v := 1) dL_law_2320 (by decide) ?_
    refine V_iadd (pc := 2321) dL_law_2321 ?_
    refine J_ld (pc := 2322) (j := i + 1) dL_law_2322 hq hs (nI_add i 1) (by omega) hL ?_
    refine V_aload_n (pc := 2323) (i := 0) dL_law_2323 rfl rfl ?_
    refine V_iload (pc := 2324) dL_law_2324 rfl ?_
    refine V_iconst (pc := 2326) (v := 2) dL_law_2326 (by decide) ?_
    refine V_iadd (pc := 2327) dL_law_2327 ?_
    refine J_ld (pc := 2328) (j := i + 2) dL_law_2328 hq hs (nI_add i 2) (by omega) hL ?_
    refine J_M (pc := 2329) dL_law_2329 cL_257 (fun h0 => kM G (b + 68) 80 h0 (by omega) (by omega)) rfl (Nat.le_of_ble_eq_true rfl) rfl (by omega) (Nat.le_of_ble_eq_true rfl) (fun v1 T1 hp => ?_)
    obtain ⟨e1, e2, e3⟩ := hp
    subst e1
    refine V_istore (pc := 2332) dL_law_2332 (by decide) rfl ?_
    refine V_aload_n (pc := 2334) (i := 2) dL_law_2334 rfl rfl ?_
    refine J_M (pc := 2335) dL_law_2335 cL_139 (J_thrown e2) rfl (Nat.le_of_ble_eq_true rfl) rfl (by omega) (Nat.le_of_ble_eq_true rfl) (fun v2 T2 hp => ?_)
    obtain ⟨r1, r2⟩ := hp
    subst r1; subst r2
    refine V_iload (pc := 2338) dL_law_2338 rfl ?_
    refine V_icmp_eq (pc := 2340) 2345 dL_law_2340 rfl (fun _ => ?_) (fun q => absurd rfl q)
    refine V_iload (pc := 2345) dL_law_2345 rfl ?_
    refine V_if_ne (pc := 2347) 2362 dL_law_2347 rfl (fun _ => ?_) (fun q => absurd q (by decide))
    refine V_goto (pc := 2362) 2780 dL_law_2362 rfl ?_
    exact V_bud (by omega) (by omega) (nxt _ _ _ _ _ _ e3)
theorem law_see {i m q L : Nat} {xs : Nat → Int32} (hq : gV G 100 = q) (hs : gV G 101 = L ∧ ∀ j, nI (gV G (1000 + j)) = xs j) (hL : L ≤ 3072) (hi : i + 6 ≤ L) (hb : gB G ≤ b) (hd : 100 ≤ d) (rel : REL S T) (nxt : ∀ S' T' fo' y' l5 l6, REL S' T' → V G mL_law d m (6 * m) Q 2780 [some (.ref q), some (.ref (b + 0)), some (.ref (b + 68 + 0)), some (.ref (b + 68 + 35)), some (.int (nI i)), l5, l6] [] (jH G b S' T' fo' hS y')) : V G mL_law d (m + 1) (6 * m + 6) Q 2365 [some (.ref q), some (.ref (b + 0)), some (.ref (b + 68 + 0)), some (.ref (b + 68 + 35)), some (.int (nI i)), none, none] [] (jH G b S T fo hS y) := by
  by_cases cz : xs (i + 3) = 0
  · rcases pr_see rel (xs (i + 1)) (xs (i + 2)) (v := 0) (Or.inl rfl) with ⟨v, S1, kC, kM⟩ | ⟨kC, kM⟩
    · refine V_aload_n (pc := 2365) (i := 1) dL_law_2365 rfl rfl ?_
      refine V_aload_n (pc := 2366) (i := 0) dL_law_2366 rfl rfl ?_
      refine V_iload (pc := 2367) dL_law_2367 rfl ?_
      refine V_iconst (pc := 2369) (v := 1) dL_law_2369 (by decide) ?_
      refine V_iadd (pc := 2370) dL_law_2370 ?_
      refine J_ld (pc := 2371) (j := i + 1) dL_law_2371 hq hs (nI_add i 1) (by omega) hL ?_
      refine V_aload_n (pc := 2372) (i := 0) dL_law_2372 rfl rfl ?_
      refine V_iload (pc := 2373) dL_law_2373 rfl ?_
      refine V_iconst (pc := 2375) (v := 2) dL_law_2375 (by decide) ?_
      refine V_iadd (pc := 2376) dL_law_2376 ?_
      refine J_ld (pc := 2377) (j := i + 2) dL_law_2377 hq hs (nI_add i 2) (by omega) hL ?_
      refine V_aload_n (pc := 2378) (i := 0) dL_law_2378 rfl rfl ?_
      refine V_iload (pc := 2379) dL_law_2379 rfl ?_
      refine V_iconst (pc := 2381) (v := 3) dL_law_2381 (by decide) ?_
      refine V_iadd (pc := 2382) dL_law_2382 ?_
      refine J_ld (pc := 2383) (j := i + 3) dL_law_2383 hq hs (nI_add i 3) (by omega) hL ?_
      refine V_if_eq (pc := 2384) 2391 dL_law_2384 rfl (fun _ => ?_) (fun q => absurd cz q)
      refine V_iconst (pc := 2391) (v := 0) dL_law_2391 (by decide) ?_
      refine V_aload_n (pc := 2392) (i := 3) dL_law_2392 rfl rfl ?_
      refine J_S (pc := 2393) dL_law_2393 cL_258 (L_see_ok (d := 90) (fun h0 => kC G b 80 h0 hb (by omega)) hb (by omega)) rfl (Nat.le_of_ble_eq_true rfl) rfl (by omega) (Nat.le_of_ble_eq_true rfl) ?_
      refine V_istore (pc := 2396) dL_law_2396 (by decide) rfl ?_
      refine V_aload_n (pc := 2398) (i := 2) dL_law_2398 rfl rfl ?_
      refine V_aload_n (pc := 2399) (i := 0) dL_law_2399 rfl rfl ?_
      refine V_iload (pc := 2400) dL_law_2400 rfl ?_
      refine V_iconst (pc := 2402) (v := 1) dL_law_2402 (by decide) ?_
      refine V_iadd (pc := 2403) dL_law_2403 ?_
      refine J_ld (pc := 2404) (j := i + 1) dL_law_2404 hq hs (nI_add i 1) (by omega) hL ?_
      refine V_aload_n (pc := 2405) (i := 0) dL_law_2405 rfl rfl ?_
      refine V_iload (pc := 2406) dL_law_2406 rfl ?_
      refine V_iconst (pc := 2408) (v := 2) dL_law_2408 (by decide) ?_
      refine V_iadd (pc := 2409) dL_law_2409 ?_
      refine J_ld (pc := 2410) (j := i + 2) dL_law_2410 hq hs (nI_add i 2) (by omega) hL ?_
      refine V_aload_n (pc := 2411) (i := 0) dL_law_2411 rfl rfl ?_
      refine V_iload (pc := 2412) dL_law_2412 rfl ?_
      refine V_iconst (pc := 2414) (v := 3) dL_law_2414 (by decide) ?_
      refine V_iadd (pc := 2415) dL_law_2415 ?_
      refine J_ld (pc := 2416) (j := i + 3) dL_law_2416 hq hs (nI_add i 3) (by omega) hL ?_
      refine V_if_eq (pc := 2417) 2424 dL_law_2417 rfl (fun _ => ?_) (fun q => absurd cz q)
      refine V_iconst (pc := 2424) (v := 0) dL_law_2424 (by decide) ?_
      refine J_M (pc := 2425) dL_law_2425 cL_260 (fun h0 => kM G (b + 68) 80 h0 (by omega) (by omega)) rfl (Nat.le_of_ble_eq_true rfl) rfl (by omega) (Nat.le_of_ble_eq_true rfl) (fun v1 T1 hp => ?_)
      obtain ⟨e1, e2, e3⟩ := hp
      subst e1
      refine V_istore (pc := 2428) dL_law_2428 (by decide) rfl ?_
      refine V_aload_n (pc := 2430) (i := 2) dL_law_2430 rfl rfl ?_
      refine J_M (pc := 2431) dL_law_2431 cL_139 (J_thrown e2) rfl (Nat.le_of_ble_eq_true rfl) rfl (by omega) (Nat.le_of_ble_eq_true rfl) (fun v2 T2 hp => ?_)
      obtain ⟨r1, r2⟩ := hp
      subst r1; subst r2
      refine V_iload (pc := 2434) dL_law_2434 rfl ?_
      refine V_icmp_eq (pc := 2436) 2441 dL_law_2436 rfl (fun _ => ?_) (fun q => absurd rfl q)
      refine V_iload (pc := 2441) dL_law_2441 rfl ?_
      refine V_if_ne (pc := 2443) 2458 dL_law_2443 rfl (fun q => absurd rfl q) (fun _ => ?_)
      refine V_aload_n (pc := 2446) (i := 3) dL_law_2446 rfl rfl ?_
      refine V_iconst (pc := 2447) (v := 0) dL_law_2447 (by decide) ?_
      refine J_lald (pc := 2448) dL_law_2448 updL0 ?_
      refine V_iload (pc := 2449) dL_law_2449 rfl ?_
      refine V_i2l (pc := 2451) dL_law_2451 rfl ?_
      refine V_lcmp (pc := 2452) dL_law_2452 ?_
      rw [cmp_0]
      refine V_if_eq (pc := 2453) 2458 dL_law_2453 rfl (fun _ => ?_) (fun q => absurd rfl q)
      refine V_goto (pc := 2458) 2780 dL_law_2458 rfl ?_
      exact V_bud (by omega) (by omega) (nxt _ _ _ _ _ _ e3)
    · refine V_aload_n (pc := 2365) (i := 1) dL_law_2365 rfl rfl ?_
      refine V_aload_n (pc := 2366) (i := 0) dL_law_2366 rfl rfl ?_
      refine V_iload (pc := 2367) dL_law_2367 rfl ?_
      refine V_iconst (pc := 2369) (v := 1) dL_law_2369 (by decide) ?_
      refine V_iadd (pc := 2370) dL_law_2370 ?_
      refine J_ld (pc := 2371) (j := i + 1) dL_law_2371 hq hs (nI_add i 1) (by omega) hL ?_
      refine V_aload_n (pc := 2372) (i := 0) dL_law_2372 rfl rfl ?_
      refine V_iload (pc := 2373) dL_law_2373 rfl ?_
      refine V_iconst (pc := 2375) (v := 2) dL_law_2375 (by decide) ?_
      refine V_iadd (pc := 2376) dL_law_2376 ?_
      refine J_ld (pc := 2377) (j := i + 2) dL_law_2377 hq hs (nI_add i 2) (by omega) hL ?_
      refine V_aload_n (pc := 2378) (i := 0) dL_law_2378 rfl rfl ?_
      refine V_iload (pc := 2379) dL_law_2379 rfl ?_
      refine V_iconst (pc := 2381) (v := 3) dL_law_2381 (by decide) ?_
      refine V_iadd (pc := 2382) dL_law_2382 ?_
      refine J_ld (pc := 2383) (j := i + 3) dL_law_2383 hq hs (nI_add i 3) (by omega) hL ?_
      refine V_if_eq (pc := 2384) 2391 dL_law_2384 rfl (fun _ => ?_) (fun q => absurd cz q)
      refine V_iconst (pc := 2391) (v := 0) dL_law_2391 (by decide) ?_
      refine V_aload_n (pc := 2392) (i := 3) dL_law_2392 rfl rfl ?_
      refine J_Sth (pc := 2393) (bc := m) (bs := 6 * m) dL_law_2393 cL_258 (L_see_NSE (d := 90) (fun h0 => kC G b 80 h0 hb (by omega)) hb (by omega)) rfl (Nat.le_of_ble_eq_true rfl) rfl (by omega) (Nat.le_of_ble_eq_true rfl) (fun y1 => ?_)
      refine V_istore (pc := 2396) dL_law_2396 (by decide) rfl ?_
      refine V_aload_n (pc := 2398) (i := 2) dL_law_2398 rfl rfl ?_
      refine V_aload_n (pc := 2399) (i := 0) dL_law_2399 rfl rfl ?_
      refine V_iload (pc := 2400) dL_law_2400 rfl ?_
      refine V_iconst (pc := 2402) (v := 1) dL_law_2402 (by decide) ?_
      refine V_iadd (pc := 2403) dL_law_2403 ?_
      refine J_ld (pc := 2404) (j := i + 1) dL_law_2404 hq hs (nI_add i 1) (by omega) hL ?_
      refine V_aload_n (pc := 2405) (i := 0) dL_law_2405 rfl rfl ?_
      refine V_iload (pc := 2406) dL_law_2406 rfl ?_
      refine V_iconst (pc := 2408) (v := 2) dL_law_2408 (by decide) ?_
      refine V_iadd (pc := 2409) dL_law_2409 ?_
      refine J_ld (pc := 2410) (j := i + 2) dL_law_2410 hq hs (nI_add i 2) (by omega) hL ?_
      refine V_aload_n (pc := 2411) (i := 0) dL_law_2411 rfl rfl ?_
      refine V_iload (pc := 2412) dL_law_2412 rfl ?_
      refine V_iconst (pc := 2414) (v := 3) dL_law_2414 (by decide) ?_
      refine V_iadd (pc := 2415) dL_law_2415 ?_
      refine J_ld (pc := 2416) (j := i + 3) dL_law_2416 hq hs (nI_add i 3) (by omega) hL ?_
      refine V_if_eq (pc := 2417) 2424 dL_law_2417 rfl (fun _ => ?_) (fun q => absurd cz q)
      refine V_iconst (pc := 2424) (v := 0) dL_law_2424 (by decide) ?_
      refine J_M (pc := 2425) dL_law_2425 cL_260 (fun h0 => kM G (b + 68) 80 h0 (by omega) (by omega)) rfl (Nat.le_of_ble_eq_true rfl) rfl (by omega) (Nat.le_of_ble_eq_true rfl) (fun v1 T1 hp => ?_)
      obtain ⟨e1, e2, e3⟩ := hp
      subst e1
      refine V_istore (pc := 2428) dL_law_2428 (by decide) rfl ?_
      refine V_aload_n (pc := 2430) (i := 2) dL_law_2430 rfl rfl ?_
      refine J_M (pc := 2431) dL_law_2431 cL_139 (J_thrown e2) rfl (Nat.le_of_ble_eq_true rfl) rfl (by omega) (Nat.le_of_ble_eq_true rfl) (fun v2 T2 hp => ?_)
      obtain ⟨r1, r2⟩ := hp
      subst r1; subst r2
      refine V_iload (pc := 2434) dL_law_2434 rfl ?_
      refine V_icmp_eq (pc := 2436) 2441 dL_law_2436 rfl (fun _ => ?_) (fun q => absurd rfl q)
      refine V_iload (pc := 2441) dL_law_2441 rfl ?_
      refine V_if_ne (pc := 2443) 2458 dL_law_2443 rfl (fun _ => ?_) (fun q => absurd q (by decide))
      refine V_goto (pc := 2458) 2780 dL_law_2458 rfl ?_
      exact V_bud (by omega) (by omega) (nxt _ _ _ _ _ _ e3)
  · rcases pr_see rel (xs (i + 1)) (xs (i + 2)) (v := 1) (Or.inr rfl) with ⟨v, S1, kC, kM⟩ | ⟨kC, kM⟩
    · refine V_aload_n (pc := 2365) (i := 1) dL_law_2365 rfl rfl ?_
      refine V_aload_n (pc := 2366) (i := 0) dL_law_2366 rfl rfl ?_
      refine V_iload (pc := 2367) dL_law_2367 rfl ?_
      refine V_iconst (pc := 2369) (v := 1) dL_law_2369 (by decide) ?_
      refine V_iadd (pc := 2370) dL_law_2370 ?_
      refine J_ld (pc := 2371) (j := i + 1) dL_law_2371 hq hs (nI_add i 1) (by omega) hL ?_
      refine V_aload_n (pc := 2372) (i := 0) dL_law_2372 rfl rfl ?_
      refine V_iload (pc := 2373) dL_law_2373 rfl ?_
      refine V_iconst (pc := 2375) (v := 2) dL_law_2375 (by decide) ?_
      refine V_iadd (pc := 2376) dL_law_2376 ?_
      refine J_ld (pc := 2377) (j := i + 2) dL_law_2377 hq hs (nI_add i 2) (by omega) hL ?_
      refine V_aload_n (pc := 2378) (i := 0) dL_law_2378 rfl rfl ?_
      refine V_iload (pc := 2379) dL_law_2379 rfl ?_
      refine V_iconst (pc := 2381) (v := 3) dL_law_2381 (by decide) ?_
      refine V_iadd (pc := 2382) dL_law_2382 ?_
      refine J_ld (pc := 2383) (j := i + 3) dL_law_2383 hq hs (nI_add i 3) (by omega) hL ?_
      refine V_if_eq (pc := 2384) 2391 dL_law_2384 rfl (fun q => absurd q cz) (fun _ => ?_)
      refine V_iconst (pc := 2387) (v := 1) dL_law_2387 (by decide) ?_
      refine V_goto (pc := 2388) 2392 dL_law_2388 rfl ?_
      refine V_aload_n (pc := 2392) (i := 3) dL_law_2392 rfl rfl ?_
      refine J_S (pc := 2393) dL_law_2393 cL_258 (L_see_ok (d := 90) (fun h0 => kC G b 80 h0 hb (by omega)) hb (by omega)) rfl (Nat.le_of_ble_eq_true rfl) rfl (by omega) (Nat.le_of_ble_eq_true rfl) ?_
      refine V_istore (pc := 2396) dL_law_2396 (by decide) rfl ?_
      refine V_aload_n (pc := 2398) (i := 2) dL_law_2398 rfl rfl ?_
      refine V_aload_n (pc := 2399) (i := 0) dL_law_2399 rfl rfl ?_
      refine V_iload (pc := 2400) dL_law_2400 rfl ?_
      refine V_iconst (pc := 2402) (v := 1) dL_law_2402 (by decide) ?_
      refine V_iadd (pc := 2403) dL_law_2403 ?_
      refine J_ld (pc := 2404) (j := i + 1) dL_law_2404 hq hs (nI_add i 1) (by omega) hL ?_
      refine V_aload_n (pc := 2405) (i := 0) dL_law_2405 rfl rfl ?_
      refine V_iload (pc := 2406) dL_law_2406 rfl ?_
      refine V_iconst (pc := 2408) (v := 2) dL_law_2408 (by decide) ?_
      refine V_iadd (pc := 2409) dL_law_2409 ?_
      refine J_ld (pc := 2410) (j := i + 2) dL_law_2410 hq hs (nI_add i 2) (by omega) hL ?_
      refine V_aload_n (pc := 2411) (i := 0) dL_law_2411 rfl rfl ?_
      refine V_iload (pc := 2412) dL_law_2412 rfl ?_
      refine V_iconst (pc := 2414) (v := 3) dL_law_2414 (by decide) ?_
      refine V_iadd (pc := 2415) dL_law_2415 ?_
      refine J_ld (pc := 2416) (j := i + 3) dL_law_2416 hq hs (nI_add i 3) (by omega) hL ?_
      refine V_if_eq (pc := 2417) 2424 dL_law_2417 rfl (fun q => absurd q cz) (fun _ => ?_)
      refine V_iconst (pc := 2420) (v := 1) dL_law_2420 (by decide) ?_
      refine V_goto (pc := 2421) 2425 dL_law_2421 rfl ?_
      refine J_M (pc := 2425) dL_law_2425 cL_260 (fun h0 => kM G (b + 68) 80 h0 (by omega) (by omega)) rfl (Nat.le_of_ble_eq_true rfl) rfl (by omega) (Nat.le_of_ble_eq_true rfl) (fun v1 T1 hp => ?_)
      obtain ⟨e1, e2, e3⟩ := hp
      subst e1
      refine V_istore (pc := 2428) dL_law_2428 (by decide) rfl ?_
      refine V_aload_n (pc := 2430) (i := 2) dL_law_2430 rfl rfl ?_
      refine J_M (pc := 2431) dL_law_2431 cL_139 (J_thrown e2) rfl (Nat.le_of_ble_eq_true rfl) rfl (by omega) (Nat.le_of_ble_eq_true rfl) (fun v2 T2 hp => ?_)
      obtain ⟨r1, r2⟩ := hp
      subst r1; subst r2
      refine V_iload (pc := 2434) dL_law_2434 rfl ?_
      refine V_icmp_eq (pc := 2436) 2441 dL_law_2436 rfl (fun _ => ?_) (fun q => absurd rfl q)
      refine V_iload (pc := 2441) dL_law_2441 rfl ?_
      refine V_if_ne (pc := 2443) 2458 dL_law_2443 rfl (fun q => absurd rfl q) (fun _ => ?_)
      refine V_aload_n (pc := 2446) (i := 3) dL_law_2446 rfl rfl ?_
      refine V_iconst (pc := 2447) (v := 0) dL_law_2447 (by decide) ?_
      refine J_lald (pc := 2448) dL_law_2448 updL0 ?_
      refine V_iload (pc := 2449) dL_law_2449 rfl ?_
      refine V_i2l (pc := 2451) dL_law_2451 rfl ?_
      refine V_lcmp (pc := 2452) dL_law_2452 ?_
      rw [cmp_0]
      refine V_if_eq (pc := 2453) 2458 dL_law_2453 rfl (fun _ => ?_) (fun q => absurd rfl q)
      refine V_goto (pc := 2458) 2780 dL_law_2458 rfl ?_
      exact V_bud (by omega) (by omega) (nxt _ _ _ _ _ _ e3)
    · refine V_aload_n (pc := 2365) (i := 1) dL_law_2365 rfl rfl ?_
      refine V_aload_n (pc := 2366) (i := 0) dL_law_2366 rfl rfl ?_
      refine V_iload (pc := 2367) dL_law_2367 rfl ?_
      refine V_iconst (pc := 2369) (v := 1) dL_law_2369 (by decide) ?_
      refine V_iadd (pc := 2370) dL_law_2370 ?_
      refine J_ld (pc := 2371) (j := i + 1) dL_law_2371 hq hs (nI_add i 1) (by omega) hL ?_
      refine V_aload_n (pc := 2372) (i := 0) dL_law_2372 rfl rfl ?_
      refine V_iload (pc := 2373) dL_law_2373 rfl ?_
      refine V_iconst (pc := 2375) (v := 2) dL_law_2375 (by decide) ?_
      refine V_iadd (pc := 2376) dL_law_2376 ?_
      refine J_ld (pc := 2377) (j := i + 2) dL_law_2377 hq hs (nI_add i 2) (by omega) hL ?_
      refine V_aload_n (pc := 2378) (i := 0) dL_law_2378 rfl rfl ?_
      refine V_iload (pc := 2379) dL_law_2379 rfl ?_
      refine V_iconst (pc := 2381) (v := 3) dL_law_2381 (by decide) ?_
      refine V_iadd (pc := 2382) dL_law_2382 ?_
      refine J_ld (pc := 2383) (j := i + 3) dL_law_2383 hq hs (nI_add i 3) (by omega) hL ?_
      refine V_if_eq (pc := 2384) 2391 dL_law_2384 rfl (fun q => absurd q cz) (fun _ => ?_)
      refine V_iconst (pc := 2387) (v := 1) dL_law_2387 (by decide) ?_
      refine V_goto (pc := 2388) 2392 dL_law_2388 rfl ?_
      refine V_aload_n (pc := 2392) (i := 3) dL_law_2392 rfl rfl ?_
      refine J_Sth (pc := 2393) (bc := m) (bs := 6 * m) dL_law_2393 cL_258 (L_see_NSE (d := 90) (fun h0 => kC G b 80 h0 hb (by omega)) hb (by omega)) rfl (Nat.le_of_ble_eq_true rfl) rfl (by omega) (Nat.le_of_ble_eq_true rfl) (fun y1 => ?_)
      refine V_istore (pc := 2396) dL_law_2396 (by decide) rfl ?_
      refine V_aload_n (pc := 2398) (i := 2) dL_law_2398 rfl rfl ?_
      refine V_aload_n (pc := 2399) (i := 0) dL_law_2399 rfl rfl ?_
      refine V_iload (pc := 2400) dL_law_2400 rfl ?_
      refine V_iconst (pc := 2402) (v := 1) dL_law_2402 (by decide) ?_
      refine V_iadd (pc := 2403) dL_law_2403 ?_
      refine J_ld (pc := 2404) (j := i + 1) dL_law_2404 hq hs (nI_add i 1) (by omega) hL ?_
      refine V_aload_n (pc := 2405) (i := 0) dL_law_2405 rfl rfl ?_
      refine V_iload (pc := 2406) dL_law_2406 rfl ?_
      refine V_iconst (pc := 2408) (v := 2) dL_law_2408 (by decide) ?_
      refine V_iadd (pc := 2409) dL_law_2409 ?_
      refine J_ld (pc := 2410) (j := i + 2) dL_law_2410 hq hs (nI_add i 2) (by omega) hL ?_
      refine V_aload_n (pc := 2411) (i := 0) dL_law_2411 rfl rfl ?_
      refine V_iload (pc := 2412) dL_law_2412 rfl ?_
      refine V_iconst (pc := 2414) (v := 3) dL_law_2414 (by decide) ?_
      refine V_iadd (pc := 2415) dL_law_2415 ?_
      refine J_ld (pc := 2416) (j := i + 3) dL_law_2416 hq hs (nI_add i 3) (by omega) hL ?_
      refine V_if_eq (pc := 2417) 2424 dL_law_2417 rfl (fun q => absurd q cz) (fun _ => ?_)
      refine V_iconst (pc := 2420) (v := 1) dL_law_2420 (by decide) ?_
      refine V_goto (pc := 2421) 2425 dL_law_2421 rfl ?_
      refine J_M (pc := 2425) dL_law_2425 cL_260 (fun h0 => kM G (b + 68) 80 h0 (by omega) (by omega)) rfl (Nat.le_of_ble_eq_true rfl) rfl (by omega) (Nat.le_of_ble_eq_true rfl) (fun v1 T1 hp => ?_)
      obtain ⟨e1, e2, e3⟩ := hp
      subst e1
      refine V_istore (pc := 2428) dL_law_2428 (by decide) rfl ?_
      refine V_aload_n (pc := 2430) (i := 2) dL_law_2430 rfl rfl ?_
      refine J_M (pc := 2431) dL_law_2431 cL_139 (J_thrown e2) rfl (Nat.le_of_ble_eq_true rfl) rfl (by omega) (Nat.le_of_ble_eq_true rfl) (fun v2 T2 hp => ?_)
      obtain ⟨r1, r2⟩ := hp
      subst r1; subst r2
      refine V_iload (pc := 2434) dL_law_2434 rfl ?_
      refine V_icmp_eq (pc := 2436) 2441 dL_law_2436 rfl (fun _ => ?_) (fun q => absurd rfl q)
      refine V_iload (pc := 2441) dL_law_2441 rfl ?_
      refine V_if_ne (pc := 2443) 2458 dL_law_2443 rfl (fun _ => ?_) (fun q => absurd q (by decide))
      refine V_goto (pc := 2458) 2780 dL_law_2458 rfl ?_
      exact V_bud (by omega) (by omega) (nxt _ _ _ _ _ _ e3)
theorem law_tells {i m q L : Nat} {xs : Nat → Int32} (hq : gV G 100 = q) (hs : gV G 101 = L ∧ ∀ j, nI (gV G (1000 + j)) = xs j) (hL : L ≤ 3072) (hi : i + 6 ≤ L) (hb : gB G ≤ b) (hd : 100 ≤ d) (rel : REL S T) (nxt : ∀ S' T' fo' y' l5 l6, REL S' T' → V G mL_law d m (6 * m) Q 2780 [some (.ref q), some (.ref (b + 0)), some (.ref (b + 68 + 0)), some (.ref (b + 68 + 35)), some (.int (nI i)), l5, l6] [] (jH G b S' T' fo' hS y')) : V G mL_law d (m + 1) (6 * m + 6) Q 2461 [some (.ref q), some (.ref (b + 0)), some (.ref (b + 68 + 0)), some (.ref (b + 68 + 35)), some (.int (nI i)), none, none] [] (jH G b S T fo hS y) := by
  rcases pr_tells rel (xs (i + 1)) with ⟨v, S1, kC, kM⟩ | ⟨kC, kM⟩
  · refine V_aload_n (pc := 2461) (i := 1) dL_law_2461 rfl rfl ?_
    refine V_aload_n (pc := 2462) (i := 0) dL_law_2462 rfl rfl ?_
    refine V_iload (pc := 2463) dL_law_2463 rfl ?_
    refine V_iconst (pc := 2465) (v := 1) dL_law_2465 (by decide) ?_
    refine V_iadd (pc := 2466) dL_law_2466 ?_
    refine J_ld (pc := 2467) (j := i + 1) dL_law_2467 hq hs (nI_add i 1) (by omega) hL ?_
    refine V_aload_n (pc := 2468) (i := 3) dL_law_2468 rfl rfl ?_
    refine J_S (pc := 2469) dL_law_2469 cL_261 (L_tells_ok (d := 90) (fun h0 => kC G b 80 h0 hb (by omega)) hb (by omega)) rfl (Nat.le_of_ble_eq_true rfl) rfl (by omega) (Nat.le_of_ble_eq_true rfl) ?_
    refine V_istore (pc := 2472) dL_law_2472 (by decide) rfl ?_
    refine V_aload_n (pc := 2474) (i := 2) dL_law_2474 rfl rfl ?_
    refine V_aload_n (pc := 2475) (i := 0) dL_law_2475 rfl rfl ?_
    refine V_iload (pc := 2476) dL_law_2476 rfl ?_
    refine V_iconst (pc := 2478) (v := 1) dL_law_2478 (by decide) ?_
    refine V_iadd (pc := 2479) dL_law_2479 ?_
    refine J_ld (pc := 2480) (j := i + 1) dL_law_2480 hq hs (nI_add i 1) (by omega) hL ?_
    refine J_M (pc := 2481) dL_law_2481 cL_263 (fun h0 => kM G (b + 68) 80 h0 (by omega) (by omega)) rfl (Nat.le_of_ble_eq_true rfl) rfl (by omega) (Nat.le_of_ble_eq_true rfl) (fun v1 T1 hp => ?_)
    obtain ⟨e1, e2, e3⟩ := hp
    subst e1
    refine V_istore (pc := 2484) dL_law_2484 (by decide) rfl ?_
    refine V_aload_n (pc := 2486) (i := 2) dL_law_2486 rfl rfl ?_
    refine J_M (pc := 2487) dL_law_2487 cL_139 (J_thrown e2) rfl (Nat.le_of_ble_eq_true rfl) rfl (by omega) (Nat.le_of_ble_eq_true rfl) (fun v2 T2 hp => ?_)
    obtain ⟨r1, r2⟩ := hp
    subst r1; subst r2
    refine V_iload (pc := 2490) dL_law_2490 rfl ?_
    refine V_icmp_eq (pc := 2492) 2497 dL_law_2492 rfl (fun _ => ?_) (fun q => absurd rfl q)
    refine V_iload (pc := 2497) dL_law_2497 rfl ?_
    refine V_if_ne (pc := 2499) 2514 dL_law_2499 rfl (fun q => absurd rfl q) (fun _ => ?_)
    refine V_aload_n (pc := 2502) (i := 3) dL_law_2502 rfl rfl ?_
    refine V_iconst (pc := 2503) (v := 0) dL_law_2503 (by decide) ?_
    refine J_lald (pc := 2504) dL_law_2504 updL0 ?_
    refine V_iload (pc := 2505) dL_law_2505 rfl ?_
    refine V_i2l (pc := 2507) dL_law_2507 rfl ?_
    refine V_lcmp (pc := 2508) dL_law_2508 ?_
    rw [cmp_0]
    refine V_if_eq (pc := 2509) 2514 dL_law_2509 rfl (fun _ => ?_) (fun q => absurd rfl q)
    refine V_goto (pc := 2514) 2780 dL_law_2514 rfl ?_
    exact V_bud (by omega) (by omega) (nxt _ _ _ _ _ _ e3)
  · refine V_aload_n (pc := 2461) (i := 1) dL_law_2461 rfl rfl ?_
    refine V_aload_n (pc := 2462) (i := 0) dL_law_2462 rfl rfl ?_
    refine V_iload (pc := 2463) dL_law_2463 rfl ?_
    refine V_iconst (pc := 2465) (v := 1) dL_law_2465 (by decide) ?_
    refine V_iadd (pc := 2466) dL_law_2466 ?_
    refine J_ld (pc := 2467) (j := i + 1) dL_law_2467 hq hs (nI_add i 1) (by omega) hL ?_
    refine V_aload_n (pc := 2468) (i := 3) dL_law_2468 rfl rfl ?_
    refine J_Sth (pc := 2469) (bc := m) (bs := 6 * m) dL_law_2469 cL_261 (L_tells_NSE (d := 90) (fun h0 => kC G b 80 h0 hb (by omega)) hb (by omega)) rfl (Nat.le_of_ble_eq_true rfl) rfl (by omega) (Nat.le_of_ble_eq_true rfl) (fun y1 => ?_)
    refine V_istore (pc := 2472) dL_law_2472 (by decide) rfl ?_
    refine V_aload_n (pc := 2474) (i := 2) dL_law_2474 rfl rfl ?_
    refine V_aload_n (pc := 2475) (i := 0) dL_law_2475 rfl rfl ?_
    refine V_iload (pc := 2476) dL_law_2476 rfl ?_
    refine V_iconst (pc := 2478) (v := 1) dL_law_2478 (by decide) ?_
    refine V_iadd (pc := 2479) dL_law_2479 ?_
    refine J_ld (pc := 2480) (j := i + 1) dL_law_2480 hq hs (nI_add i 1) (by omega) hL ?_
    refine J_M (pc := 2481) dL_law_2481 cL_263 (fun h0 => kM G (b + 68) 80 h0 (by omega) (by omega)) rfl (Nat.le_of_ble_eq_true rfl) rfl (by omega) (Nat.le_of_ble_eq_true rfl) (fun v1 T1 hp => ?_)
    obtain ⟨e1, e2, e3⟩ := hp
    subst e1
    refine V_istore (pc := 2484) dL_law_2484 (by decide) rfl ?_
    refine V_aload_n (pc := 2486) (i := 2) dL_law_2486 rfl rfl ?_
    refine J_M (pc := 2487) dL_law_2487 cL_139 (J_thrown e2) rfl (Nat.le_of_ble_eq_true rfl) rfl (by omega) (Nat.le_of_ble_eq_true rfl) (fun v2 T2 hp => ?_)
    obtain ⟨r1, r2⟩ := hp
    subst r1; subst r2
    refine V_iload (pc := 2490) dL_law_2490 rfl ?_
    refine V_icmp_eq (pc := 2492) 2497 dL_law_2492 rfl (fun _ => ?_) (fun q => absurd rfl q)
    refine V_iload (pc := 2497) dL_law_2497 rfl ?_
    refine V_if_ne (pc := 2499) 2514 dL_law_2499 rfl (fun _ => ?_) (fun q => absurd q (by decide))
    refine V_goto (pc := 2514) 2780 dL_law_2514 rfl ?_
    exact V_bud (by omega) (by omega) (nxt _ _ _ _ _ _ e3)
theorem law_look {i m q L : Nat} {xs : Nat → Int32} (hq : gV G 100 = q) (hs : gV G 101 = L ∧ ∀ j, nI (gV G (1000 + j)) = xs j) (hL : L ≤ 3072) (hi : i + 6 ≤ L) (hb : gB G ≤ b) (hd : 100 ≤ d) (rel : REL S T) (nxt : ∀ S' T' fo' y' l5 l6, REL S' T' → V G mL_law d m (6 * m) Q 2780 [some (.ref q), some (.ref (b + 0)), some (.ref (b + 68 + 0)), some (.ref (b + 68 + 35)), some (.int (nI i)), l5, l6] [] (jH G b S' T' fo' hS y')) : V G mL_law d (m + 1) (6 * m + 6) Q 2517 [some (.ref q), some (.ref (b + 0)), some (.ref (b + 68 + 0)), some (.ref (b + 68 + 35)), some (.int (nI i)), none, none] [] (jH G b S T fo hS y) := by
  rcases pr_look rel (xs (i + 1)) (xs (i + 2)) with ⟨v, S1, kC, kM⟩ | ⟨kC, kM⟩
  · refine V_aload_n (pc := 2517) (i := 1) dL_law_2517 rfl rfl ?_
    refine V_aload_n (pc := 2518) (i := 0) dL_law_2518 rfl rfl ?_
    refine V_iload (pc := 2519) dL_law_2519 rfl ?_
    refine V_iconst (pc := 2521) (v := 1) dL_law_2521 (by decide) ?_
    refine V_iadd (pc := 2522) dL_law_2522 ?_
    refine J_ld (pc := 2523) (j := i + 1) dL_law_2523 hq hs (nI_add i 1) (by omega) hL ?_
    refine V_aload_n (pc := 2524) (i := 0) dL_law_2524 rfl rfl ?_
    refine V_iload (pc := 2525) dL_law_2525 rfl ?_
    refine V_iconst (pc := 2527) (v := 2) dL_law_2527 (by decide) ?_
    refine V_iadd (pc := 2528) dL_law_2528 ?_
    refine J_ld (pc := 2529) (j := i + 2) dL_law_2529 hq hs (nI_add i 2) (by omega) hL ?_
    refine V_aload_n (pc := 2530) (i := 3) dL_law_2530 rfl rfl ?_
    refine J_S (pc := 2531) dL_law_2531 cL_264 (L_look_ok (d := 90) (fun h0 => kC G b 80 h0 hb (by omega)) hb (by omega)) rfl (Nat.le_of_ble_eq_true rfl) rfl (by omega) (Nat.le_of_ble_eq_true rfl) ?_
    refine V_istore (pc := 2534) dL_law_2534 (by decide) rfl ?_
    refine V_aload_n (pc := 2536) (i := 2) dL_law_2536 rfl rfl ?_
    refine V_aload_n (pc := 2537) (i := 0) dL_law_2537 rfl rfl ?_
    refine V_iload (pc := 2538) dL_law_2538 rfl ?_
    refine V_iconst (pc := 2540) (v := 1) dL_law_2540 (by decide) ?_
    refine V_iadd (pc := 2541) dL_law_2541 ?_
    refine J_ld (pc := 2542) (j := i + 1) dL_law_2542 hq hs (nI_add i 1) (by omega) hL ?_
    refine V_aload_n (pc := 2543) (i := 0) dL_law_2543 rfl rfl ?_
    refine V_iload (pc := 2544) dL_law_2544 rfl ?_
    refine V_iconst (pc := 2546) (v := 2) dL_law_2546 (by decide) ?_
    refine V_iadd (pc := 2547) dL_law_2547 ?_
    refine J_ld (pc := 2548) (j := i + 2) dL_law_2548 hq hs (nI_add i 2) (by omega) hL ?_
    refine J_M (pc := 2549) dL_law_2549 cL_266 (fun h0 => kM G (b + 68) 80 h0 (by omega) (by omega)) rfl (Nat.le_of_ble_eq_true rfl) rfl (by omega) (Nat.le_of_ble_eq_true rfl) (fun v1 T1 hp => ?_)
    obtain ⟨e1, e2, e3⟩ := hp
    subst e1
    refine V_istore (pc := 2552) dL_law_2552 (by decide) rfl ?_
    refine V_aload_n (pc := 2554) (i := 2) dL_law_2554 rfl rfl ?_
    refine J_M (pc := 2555) dL_law_2555 cL_139 (J_thrown e2) rfl (Nat.le_of_ble_eq_true rfl) rfl (by omega) (Nat.le_of_ble_eq_true rfl) (fun v2 T2 hp => ?_)
    obtain ⟨r1, r2⟩ := hp
    subst r1; subst r2
    refine V_iload (pc := 2558) dL_law_2558 rfl ?_
    refine V_icmp_eq (pc := 2560) 2565 dL_law_2560 rfl (fun _ => ?_) (fun q => absurd rfl q)
    refine V_iload (pc := 2565) dL_law_2565 rfl ?_
    refine V_if_ne (pc := 2567) 2582 dL_law_2567 rfl (fun q => absurd rfl q) (fun _ => ?_)
    refine V_aload_n (pc := 2570) (i := 3) dL_law_2570 rfl rfl ?_
    refine V_iconst (pc := 2571) (v := 0) dL_law_2571 (by decide) ?_
    refine J_lald (pc := 2572) dL_law_2572 updL0 ?_
    refine V_iload (pc := 2573) dL_law_2573 rfl ?_
    refine V_i2l (pc := 2575) dL_law_2575 rfl ?_
    refine V_lcmp (pc := 2576) dL_law_2576 ?_
    rw [cmp_0]
    refine V_if_eq (pc := 2577) 2582 dL_law_2577 rfl (fun _ => ?_) (fun q => absurd rfl q)
    refine V_goto (pc := 2582) 2780 dL_law_2582 rfl ?_
    exact V_bud (by omega) (by omega) (nxt _ _ _ _ _ _ e3)
  · refine V_aload_n (pc := 2517) (i := 1) dL_law_2517 rfl rfl ?_
    refine V_aload_n (pc := 2518) (i := 0) dL_law_2518 rfl rfl ?_
    refine V_iload (pc := 2519) dL_law_2519 rfl ?_
    refine V_iconst (pc := 2521) (v := 1) dL_law_2521 (by decide) ?_
    refine V_iadd (pc := 2522) dL_law_2522 ?_
    refine J_ld (pc := 2523) (j := i + 1) dL_law_2523 hq hs (nI_add i 1) (by omega) hL ?_
    refine V_aload_n (pc := 2524) (i := 0) dL_law_2524 rfl rfl ?_
    refine V_iload (pc := 2525) dL_law_2525 rfl ?_
    refine V_iconst (pc := 2527) (v := 2) dL_law_2527 (by decide) ?_
    refine V_iadd (pc := 2528) dL_law_2528 ?_
    refine J_ld (pc := 2529) (j := i + 2) dL_law_2529 hq hs (nI_add i 2) (by omega) hL ?_
    refine V_aload_n (pc := 2530) (i := 3) dL_law_2530 rfl rfl ?_
    refine J_Sth (pc := 2531) (bc := m) (bs := 6 * m) dL_law_2531 cL_264 (L_look_NSE (d := 90) (fun h0 => kC G b 80 h0 hb (by omega)) hb (by omega)) rfl (Nat.le_of_ble_eq_true rfl) rfl (by omega) (Nat.le_of_ble_eq_true rfl) (fun y1 => ?_)
    refine V_istore (pc := 2534) dL_law_2534 (by decide) rfl ?_
    refine V_aload_n (pc := 2536) (i := 2) dL_law_2536 rfl rfl ?_
    refine V_aload_n (pc := 2537) (i := 0) dL_law_2537 rfl rfl ?_
    refine V_iload (pc := 2538) dL_law_2538 rfl ?_
    refine V_iconst (pc := 2540) (v := 1) dL_law_2540 (by decide) ?_
    refine V_iadd (pc := 2541) dL_law_2541 ?_
    refine J_ld (pc := 2542) (j := i + 1) dL_law_2542 hq hs (nI_add i 1) (by omega) hL ?_
    refine V_aload_n (pc := 2543) (i := 0) dL_law_2543 rfl rfl ?_
    refine V_iload (pc := 2544) dL_law_2544 rfl ?_
    refine V_iconst (pc := 2546) (v := 2) dL_law_2546 (by decide) ?_
    refine V_iadd (pc := 2547) dL_law_2547 ?_
    refine J_ld (pc := 2548) (j := i + 2) dL_law_2548 hq hs (nI_add i 2) (by omega) hL ?_
    refine J_M (pc := 2549) dL_law_2549 cL_266 (fun h0 => kM G (b + 68) 80 h0 (by omega) (by omega)) rfl (Nat.le_of_ble_eq_true rfl) rfl (by omega) (Nat.le_of_ble_eq_true rfl) (fun v1 T1 hp => ?_)
    obtain ⟨e1, e2, e3⟩ := hp
    subst e1
    refine V_istore (pc := 2552) dL_law_2552 (by decide) rfl ?_
    refine V_aload_n (pc := 2554) (i := 2) dL_law_2554 rfl rfl ?_
    refine J_M (pc := 2555) dL_law_2555 cL_139 (J_thrown e2) rfl (Nat.le_of_ble_eq_true rfl) rfl (by omega) (Nat.le_of_ble_eq_true rfl) (fun v2 T2 hp => ?_)
    obtain ⟨r1, r2⟩ := hp
    subst r1; subst r2
    refine V_iload (pc := 2558) dL_law_2558 rfl ?_
    refine V_icmp_eq (pc := 2560) 2565 dL_law_2560 rfl (fun _ => ?_) (fun q => absurd rfl q)
    refine V_iload (pc := 2565) dL_law_2565 rfl ?_
    refine V_if_ne (pc := 2567) 2582 dL_law_2567 rfl (fun _ => ?_) (fun q => absurd q (by decide))
    refine V_goto (pc := 2582) 2780 dL_law_2582 rfl ?_
    exact V_bud (by omega) (by omega) (nxt _ _ _ _ _ _ e3)
theorem law_forget {i m q L : Nat} {xs : Nat → Int32} (hq : gV G 100 = q) (hs : gV G 101 = L ∧ ∀ j, nI (gV G (1000 + j)) = xs j) (hL : L ≤ 3072) (hi : i + 6 ≤ L) (hb : gB G ≤ b) (hd : 100 ≤ d) (rel : REL S T) (nxt : ∀ S' T' fo' y' l5 l6, REL S' T' → V G mL_law d m (6 * m) Q 2780 [some (.ref q), some (.ref (b + 0)), some (.ref (b + 68 + 0)), some (.ref (b + 68 + 35)), some (.int (nI i)), l5, l6] [] (jH G b S' T' fo' hS y')) : V G mL_law d (m + 1) (6 * m + 6) Q 2585 [some (.ref q), some (.ref (b + 0)), some (.ref (b + 68 + 0)), some (.ref (b + 68 + 35)), some (.int (nI i)), none, none] [] (jH G b S T fo hS y) := by
  obtain ⟨S1, kC, kM⟩ := pr_forget rel
  refine V_aload_n (pc := 2585) (i := 1) dL_law_2585 rfl rfl ?_
  refine J_C (pc := 2586) dL_law_2586 cL_267 (fun h0 => kC G b 80 h0 hb (by omega)) rfl (Nat.le_of_ble_eq_true rfl) rfl (by omega) (Nat.le_of_ble_eq_true rfl) ?_
  refine V_aload_n (pc := 2589) (i := 2) dL_law_2589 rfl rfl ?_
  refine J_M (pc := 2590) dL_law_2590 cL_270 (fun h0 => kM G (b + 68) 80 h0 (by omega) (by omega)) rfl (Nat.le_of_ble_eq_true rfl) rfl (by omega) (Nat.le_of_ble_eq_true rfl) (fun v1 T1 hp => ?_)
  obtain ⟨e1, e2, e3⟩ := hp
  subst e1
  refine V_goto (pc := 2593) 2780 dL_law_2593 rfl ?_
  exact V_bud (by omega) (by omega) (nxt _ _ _ _ _ _ e3)
theorem law_game {i m q L : Nat} {xs : Nat → Int32} (hq : gV G 100 = q) (hs : gV G 101 = L ∧ ∀ j, nI (gV G (1000 + j)) = xs j) (hL : L ≤ 3072) (hi : i + 6 ≤ L) (hb : gB G ≤ b) (hd : 100 ≤ d) (rel : REL S T) (nxt : ∀ S' T' fo' y' l5 l6, REL S' T' → V G mL_law d m (6 * m) Q 2780 [some (.ref q), some (.ref (b + 0)), some (.ref (b + 68 + 0)), some (.ref (b + 68 + 35)), some (.int (nI i)), l5, l6] [] (jH G b S' T' fo' hS y')) : V G mL_law d (m + 1) (6 * m + 6) Q 2596 [some (.ref q), some (.ref (b + 0)), some (.ref (b + 68 + 0)), some (.ref (b + 68 + 35)), some (.int (nI i)), none, none] [] (jH G b S T fo hS y) := by
  rcases pr_game rel (xs (i + 1)) (xs (i + 2)) (xs (i + 3)) with ⟨v, S1, kC, kM⟩ | ⟨kC, kM⟩ | ⟨kC, kM⟩
  · refine V_aload_n (pc := 2596) (i := 1) dL_law_2596 rfl rfl ?_
    refine V_aload_n (pc := 2597) (i := 0) dL_law_2597 rfl rfl ?_
    refine V_iload (pc := 2598) dL_law_2598 rfl ?_
    refine V_iconst (pc := 2600) (v := 1) dL_law_2600 (by decide) ?_
    refine V_iadd (pc := 2601) dL_law_2601 ?_
    refine J_ld (pc := 2602) (j := i + 1) dL_law_2602 hq hs (nI_add i 1) (by omega) hL ?_
    refine V_aload_n (pc := 2603) (i := 0) dL_law_2603 rfl rfl ?_
    refine V_iload (pc := 2604) dL_law_2604 rfl ?_
    refine V_iconst (pc := 2606) (v := 2) dL_law_2606 (by decide) ?_
    refine V_iadd (pc := 2607) dL_law_2607 ?_
    refine J_ld (pc := 2608) (j := i + 2) dL_law_2608 hq hs (nI_add i 2) (by omega) hL ?_
    refine V_aload_n (pc := 2609) (i := 0) dL_law_2609 rfl rfl ?_
    refine V_iload (pc := 2610) dL_law_2610 rfl ?_
    refine V_iconst (pc := 2612) (v := 3) dL_law_2612 (by decide) ?_
    refine V_iadd (pc := 2613) dL_law_2613 ?_
    refine J_ld (pc := 2614) (j := i + 3) dL_law_2614 hq hs (nI_add i 3) (by omega) hL ?_
    refine V_aload_n (pc := 2615) (i := 3) dL_law_2615 rfl rfl ?_
    refine J_S (pc := 2616) dL_law_2616 cL_271 (L_game_ok (d := 90) (fun h0 => kC G b 80 h0 hb (by omega)) hb (by omega)) rfl (Nat.le_of_ble_eq_true rfl) rfl (by omega) (Nat.le_of_ble_eq_true rfl) ?_
    refine V_istore (pc := 2619) dL_law_2619 (by decide) rfl ?_
    refine V_aload_n (pc := 2621) (i := 2) dL_law_2621 rfl rfl ?_
    refine V_aload_n (pc := 2622) (i := 0) dL_law_2622 rfl rfl ?_
    refine V_iload (pc := 2623) dL_law_2623 rfl ?_
    refine V_iconst (pc := 2625) (v := 1) dL_law_2625 (by decide) ?_
    refine V_iadd (pc := 2626) dL_law_2626 ?_
    refine J_ld (pc := 2627) (j := i + 1) dL_law_2627 hq hs (nI_add i 1) (by omega) hL ?_
    refine V_aload_n (pc := 2628) (i := 0) dL_law_2628 rfl rfl ?_
    refine V_iload (pc := 2629) dL_law_2629 rfl ?_
    refine V_iconst (pc := 2631) (v := 2) dL_law_2631 (by decide) ?_
    refine V_iadd (pc := 2632) dL_law_2632 ?_
    refine J_ld (pc := 2633) (j := i + 2) dL_law_2633 hq hs (nI_add i 2) (by omega) hL ?_
    refine V_aload_n (pc := 2634) (i := 0) dL_law_2634 rfl rfl ?_
    refine V_iload (pc := 2635) dL_law_2635 rfl ?_
    refine V_iconst (pc := 2637) (v := 3) dL_law_2637 (by decide) ?_
    refine V_iadd (pc := 2638) dL_law_2638 ?_
    refine J_ld (pc := 2639) (j := i + 3) dL_law_2639 hq hs (nI_add i 3) (by omega) hL ?_
    refine J_M (pc := 2640) dL_law_2640 cL_273 (fun h0 => kM G (b + 68) 80 h0 (by omega) (by omega)) rfl (Nat.le_of_ble_eq_true rfl) rfl (by omega) (Nat.le_of_ble_eq_true rfl) (fun v1 T1 hp => ?_)
    obtain ⟨e1, e2, e3⟩ := hp
    subst e1
    refine V_istore (pc := 2643) dL_law_2643 (by decide) rfl ?_
    refine V_aload_n (pc := 2645) (i := 2) dL_law_2645 rfl rfl ?_
    refine J_M (pc := 2646) dL_law_2646 cL_139 (J_thrown e2) rfl (Nat.le_of_ble_eq_true rfl) rfl (by omega) (Nat.le_of_ble_eq_true rfl) (fun v2 T2 hp => ?_)
    obtain ⟨r1, r2⟩ := hp
    subst r1; subst r2
    refine V_iload (pc := 2649) dL_law_2649 rfl ?_
    refine V_icmp_eq (pc := 2651) 2656 dL_law_2651 rfl (fun _ => ?_) (fun q => absurd rfl q)
    refine V_iload (pc := 2656) dL_law_2656 rfl ?_
    refine V_if_ne (pc := 2658) 2673 dL_law_2658 rfl (fun q => absurd rfl q) (fun _ => ?_)
    refine V_aload_n (pc := 2661) (i := 3) dL_law_2661 rfl rfl ?_
    refine V_iconst (pc := 2662) (v := 0) dL_law_2662 (by decide) ?_
    refine J_lald (pc := 2663) dL_law_2663 updL0 ?_
    refine V_iload (pc := 2664) dL_law_2664 rfl ?_
    refine V_i2l (pc := 2666) dL_law_2666 rfl ?_
    refine V_lcmp (pc := 2667) dL_law_2667 ?_
    rw [cmp_0]
    refine V_if_eq (pc := 2668) 2673 dL_law_2668 rfl (fun _ => ?_) (fun q => absurd rfl q)
    refine V_goto (pc := 2673) 2780 dL_law_2673 rfl ?_
    exact V_bud (by omega) (by omega) (nxt _ _ _ _ _ _ e3)
  · refine V_aload_n (pc := 2596) (i := 1) dL_law_2596 rfl rfl ?_
    refine V_aload_n (pc := 2597) (i := 0) dL_law_2597 rfl rfl ?_
    refine V_iload (pc := 2598) dL_law_2598 rfl ?_
    refine V_iconst (pc := 2600) (v := 1) dL_law_2600 (by decide) ?_
    refine V_iadd (pc := 2601) dL_law_2601 ?_
    refine J_ld (pc := 2602) (j := i + 1) dL_law_2602 hq hs (nI_add i 1) (by omega) hL ?_
    refine V_aload_n (pc := 2603) (i := 0) dL_law_2603 rfl rfl ?_
    refine V_iload (pc := 2604) dL_law_2604 rfl ?_
    refine V_iconst (pc := 2606) (v := 2) dL_law_2606 (by decide) ?_
    refine V_iadd (pc := 2607) dL_law_2607 ?_
    refine J_ld (pc := 2608) (j := i + 2) dL_law_2608 hq hs (nI_add i 2) (by omega) hL ?_
    refine V_aload_n (pc := 2609) (i := 0) dL_law_2609 rfl rfl ?_
    refine V_iload (pc := 2610) dL_law_2610 rfl ?_
    refine V_iconst (pc := 2612) (v := 3) dL_law_2612 (by decide) ?_
    refine V_iadd (pc := 2613) dL_law_2613 ?_
    refine J_ld (pc := 2614) (j := i + 3) dL_law_2614 hq hs (nI_add i 3) (by omega) hL ?_
    refine V_aload_n (pc := 2615) (i := 3) dL_law_2615 rfl rfl ?_
    refine J_Sth (pc := 2616) (bc := m) (bs := 6 * m) dL_law_2616 cL_271 (L_game_NSE (d := 90) (fun h0 => kC G b 80 h0 hb (by omega)) hb (by omega)) rfl (Nat.le_of_ble_eq_true rfl) rfl (by omega) (Nat.le_of_ble_eq_true rfl) (fun y1 => ?_)
    refine V_istore (pc := 2619) dL_law_2619 (by decide) rfl ?_
    refine V_aload_n (pc := 2621) (i := 2) dL_law_2621 rfl rfl ?_
    refine V_aload_n (pc := 2622) (i := 0) dL_law_2622 rfl rfl ?_
    refine V_iload (pc := 2623) dL_law_2623 rfl ?_
    refine V_iconst (pc := 2625) (v := 1) dL_law_2625 (by decide) ?_
    refine V_iadd (pc := 2626) dL_law_2626 ?_
    refine J_ld (pc := 2627) (j := i + 1) dL_law_2627 hq hs (nI_add i 1) (by omega) hL ?_
    refine V_aload_n (pc := 2628) (i := 0) dL_law_2628 rfl rfl ?_
    refine V_iload (pc := 2629) dL_law_2629 rfl ?_
    refine V_iconst (pc := 2631) (v := 2) dL_law_2631 (by decide) ?_
    refine V_iadd (pc := 2632) dL_law_2632 ?_
    refine J_ld (pc := 2633) (j := i + 2) dL_law_2633 hq hs (nI_add i 2) (by omega) hL ?_
    refine V_aload_n (pc := 2634) (i := 0) dL_law_2634 rfl rfl ?_
    refine V_iload (pc := 2635) dL_law_2635 rfl ?_
    refine V_iconst (pc := 2637) (v := 3) dL_law_2637 (by decide) ?_
    refine V_iadd (pc := 2638) dL_law_2638 ?_
    refine J_ld (pc := 2639) (j := i + 3) dL_law_2639 hq hs (nI_add i 3) (by omega) hL ?_
    refine J_M (pc := 2640) dL_law_2640 cL_273 (fun h0 => kM G (b + 68) 80 h0 (by omega) (by omega)) rfl (Nat.le_of_ble_eq_true rfl) rfl (by omega) (Nat.le_of_ble_eq_true rfl) (fun v1 T1 hp => ?_)
    obtain ⟨e1, e2, e3⟩ := hp
    subst e1
    refine V_istore (pc := 2643) dL_law_2643 (by decide) rfl ?_
    refine V_aload_n (pc := 2645) (i := 2) dL_law_2645 rfl rfl ?_
    refine J_M (pc := 2646) dL_law_2646 cL_139 (J_thrown e2) rfl (Nat.le_of_ble_eq_true rfl) rfl (by omega) (Nat.le_of_ble_eq_true rfl) (fun v2 T2 hp => ?_)
    obtain ⟨r1, r2⟩ := hp
    subst r1; subst r2
    refine V_iload (pc := 2649) dL_law_2649 rfl ?_
    refine V_icmp_eq (pc := 2651) 2656 dL_law_2651 rfl (fun _ => ?_) (fun q => absurd rfl q)
    refine V_iload (pc := 2656) dL_law_2656 rfl ?_
    refine V_if_ne (pc := 2658) 2673 dL_law_2658 rfl (fun _ => ?_) (fun q => absurd q (by decide))
    refine V_goto (pc := 2673) 2780 dL_law_2673 rfl ?_
    exact V_bud (by omega) (by omega) (nxt _ _ _ _ _ _ e3)
  · refine V_aload_n (pc := 2596) (i := 1) dL_law_2596 rfl rfl ?_
    refine V_aload_n (pc := 2597) (i := 0) dL_law_2597 rfl rfl ?_
    refine V_iload (pc := 2598) dL_law_2598 rfl ?_
    refine V_iconst (pc := 2600) (v := 1) dL_law_2600 (by decide) ?_
    refine V_iadd (pc := 2601) dL_law_2601 ?_
    refine J_ld (pc := 2602) (j := i + 1) dL_law_2602 hq hs (nI_add i 1) (by omega) hL ?_
    refine V_aload_n (pc := 2603) (i := 0) dL_law_2603 rfl rfl ?_
    refine V_iload (pc := 2604) dL_law_2604 rfl ?_
    refine V_iconst (pc := 2606) (v := 2) dL_law_2606 (by decide) ?_
    refine V_iadd (pc := 2607) dL_law_2607 ?_
    refine J_ld (pc := 2608) (j := i + 2) dL_law_2608 hq hs (nI_add i 2) (by omega) hL ?_
    refine V_aload_n (pc := 2609) (i := 0) dL_law_2609 rfl rfl ?_
    refine V_iload (pc := 2610) dL_law_2610 rfl ?_
    refine V_iconst (pc := 2612) (v := 3) dL_law_2612 (by decide) ?_
    refine V_iadd (pc := 2613) dL_law_2613 ?_
    refine J_ld (pc := 2614) (j := i + 3) dL_law_2614 hq hs (nI_add i 3) (by omega) hL ?_
    refine V_aload_n (pc := 2615) (i := 3) dL_law_2615 rfl rfl ?_
    refine J_Sth (pc := 2616) (bc := m) (bs := 6 * m) dL_law_2616 cL_271 (L_game_IAE (d := 90) (fun h0 => kC G b 80 h0 hb (by omega)) hb (by omega)) rfl (Nat.le_of_ble_eq_true rfl) rfl (by omega) (Nat.le_of_ble_eq_true rfl) (fun y1 => ?_)
    refine V_istore (pc := 2619) dL_law_2619 (by decide) rfl ?_
    refine V_aload_n (pc := 2621) (i := 2) dL_law_2621 rfl rfl ?_
    refine V_aload_n (pc := 2622) (i := 0) dL_law_2622 rfl rfl ?_
    refine V_iload (pc := 2623) dL_law_2623 rfl ?_
    refine V_iconst (pc := 2625) (v := 1) dL_law_2625 (by decide) ?_
    refine V_iadd (pc := 2626) dL_law_2626 ?_
    refine J_ld (pc := 2627) (j := i + 1) dL_law_2627 hq hs (nI_add i 1) (by omega) hL ?_
    refine V_aload_n (pc := 2628) (i := 0) dL_law_2628 rfl rfl ?_
    refine V_iload (pc := 2629) dL_law_2629 rfl ?_
    refine V_iconst (pc := 2631) (v := 2) dL_law_2631 (by decide) ?_
    refine V_iadd (pc := 2632) dL_law_2632 ?_
    refine J_ld (pc := 2633) (j := i + 2) dL_law_2633 hq hs (nI_add i 2) (by omega) hL ?_
    refine V_aload_n (pc := 2634) (i := 0) dL_law_2634 rfl rfl ?_
    refine V_iload (pc := 2635) dL_law_2635 rfl ?_
    refine V_iconst (pc := 2637) (v := 3) dL_law_2637 (by decide) ?_
    refine V_iadd (pc := 2638) dL_law_2638 ?_
    refine J_ld (pc := 2639) (j := i + 3) dL_law_2639 hq hs (nI_add i 3) (by omega) hL ?_
    refine J_M (pc := 2640) dL_law_2640 cL_273 (fun h0 => kM G (b + 68) 80 h0 (by omega) (by omega)) rfl (Nat.le_of_ble_eq_true rfl) rfl (by omega) (Nat.le_of_ble_eq_true rfl) (fun v1 T1 hp => ?_)
    obtain ⟨e1, e2, e3⟩ := hp
    subst e1
    refine V_istore (pc := 2643) dL_law_2643 (by decide) rfl ?_
    refine V_aload_n (pc := 2645) (i := 2) dL_law_2645 rfl rfl ?_
    refine J_M (pc := 2646) dL_law_2646 cL_139 (J_thrown e2) rfl (Nat.le_of_ble_eq_true rfl) rfl (by omega) (Nat.le_of_ble_eq_true rfl) (fun v2 T2 hp => ?_)
    obtain ⟨r1, r2⟩ := hp
    subst r1; subst r2
    refine V_iload (pc := 2649) dL_law_2649 rfl ?_
    refine V_icmp_eq (pc := 2651) 2656 dL_law_2651 rfl (fun _ => ?_) (fun q => absurd rfl q)
    refine V_iload (pc := 2656) dL_law_2656 rfl ?_
    refine V_if_ne (pc := 2658) 2673 dL_law_2658 rfl (fun _ => ?_) (fun q => absurd q (by decide))
    refine V_goto (pc := 2673) 2780 dL_law_2673 rfl ?_
    exact V_bud (by omega) (by omega) (nxt _ _ _ _ _ _ e3)
theorem law_years {i m q L : Nat} {xs : Nat → Int32} (hq : gV G 100 = q) (hs : gV G 101 = L ∧ ∀ j, nI (gV G (1000 + j)) = xs j) (hL : L ≤ 3072) (hi : i + 6 ≤ L) (hb : gB G ≤ b) (hd : 100 ≤ d) (rel : REL S T) (nxt : ∀ S' T' fo' y' l5 l6, REL S' T' → V G mL_law d m (6 * m) Q 2780 [some (.ref q), some (.ref (b + 0)), some (.ref (b + 68 + 0)), some (.ref (b + 68 + 35)), some (.int (nI i)), l5, l6] [] (jH G b S' T' fo' hS y')) : V G mL_law d (m + 1) (6 * m + 6) Q 2676 [some (.ref q), some (.ref (b + 0)), some (.ref (b + 68 + 0)), some (.ref (b + 68 + 35)), some (.int (nI i)), none, none] [] (jH G b S T fo hS y) := by
  rcases pr_years rel (xs (i + 1)) (xs (i + 2)) (xs (i + 3)) with ⟨v, S1, kC, kM⟩ | ⟨kC, kM⟩ | ⟨kC, kM⟩
  · refine V_aload_n (pc := 2676) (i := 1) dL_law_2676 rfl rfl ?_
    refine V_aload_n (pc := 2677) (i := 0) dL_law_2677 rfl rfl ?_
    refine V_iload (pc := 2678) dL_law_2678 rfl ?_
    refine V_iconst (pc := 2680) (v := 1) dL_law_2680 (by decide) ?_
    refine V_iadd (pc := 2681) dL_law_2681 ?_
    refine J_ld (pc := 2682) (j := i + 1) dL_law_2682 hq hs (nI_add i 1) (by omega) hL ?_
    refine V_aload_n (pc := 2683) (i := 0) dL_law_2683 rfl rfl ?_
    refine V_iload (pc := 2684) dL_law_2684 rfl ?_
    refine V_iconst (pc := 2686) (v := 2) dL_law_2686 (by decide) ?_
    refine V_iadd (pc := 2687) dL_law_2687 ?_
    refine J_ld (pc := 2688) (j := i + 2) dL_law_2688 hq hs (nI_add i 2) (by omega) hL ?_
    refine V_aload_n (pc := 2689) (i := 0) dL_law_2689 rfl rfl ?_
    refine V_iload (pc := 2690) dL_law_2690 rfl ?_
    refine V_iconst (pc := 2692) (v := 3) dL_law_2692 (by decide) ?_
    refine V_iadd (pc := 2693) dL_law_2693 ?_
    refine J_ld (pc := 2694) (j := i + 3) dL_law_2694 hq hs (nI_add i 3) (by omega) hL ?_
    refine V_aload_n (pc := 2695) (i := 3) dL_law_2695 rfl rfl ?_
    refine J_S (pc := 2696) dL_law_2696 cL_274 (L_years_ok (d := 90) (fun h0 => kC G b 80 h0 hb (by omega)) hb (by omega)) rfl (Nat.le_of_ble_eq_true rfl) rfl (by omega) (Nat.le_of_ble_eq_true rfl) ?_
    refine V_istore (pc := 2699) dL_law_2699 (by decide) rfl ?_
    refine V_aload_n (pc := 2701) (i := 2) dL_law_2701 rfl rfl ?_
    refine V_aload_n (pc := 2702) (i := 0) dL_law_2702 rfl rfl ?_
    refine V_iload (pc := 2703) dL_law_2703 rfl ?_
    refine V_iconst (pc := 2705) (v := 1) dL_law_2705 (by decide) ?_
    refine V_iadd (pc := 2706) dL_law_2706 ?_
    refine J_ld (pc := 2707) (j := i + 1) dL_law_2707 hq hs (nI_add i 1) (by omega) hL ?_
    refine V_aload_n (pc := 2708) (i := 0) dL_law_2708 rfl rfl ?_
    refine V_iload (pc := 2709) dL_law_2709 rfl ?_
    refine V_iconst (pc := 2711) (v := 2) dL_law_2711 (by decide) ?_
    refine V_iadd (pc := 2712) dL_law_2712 ?_
    refine J_ld (pc := 2713) (j := i + 2) dL_law_2713 hq hs (nI_add i 2) (by omega) hL ?_
    refine V_aload_n (pc := 2714) (i := 0) dL_law_2714 rfl rfl ?_
    refine V_iload (pc := 2715) dL_law_2715 rfl ?_
    refine V_iconst (pc := 2717) (v := 3) dL_law_2717 (by decide) ?_
    refine V_iadd (pc := 2718) dL_law_2718 ?_
    refine J_ld (pc := 2719) (j := i + 3) dL_law_2719 hq hs (nI_add i 3) (by omega) hL ?_
    refine J_M (pc := 2720) dL_law_2720 cL_276 (fun h0 => kM G (b + 68) 80 h0 (by omega) (by omega)) rfl (Nat.le_of_ble_eq_true rfl) rfl (by omega) (Nat.le_of_ble_eq_true rfl) (fun v1 T1 hp => ?_)
    obtain ⟨e1, e2, e3⟩ := hp
    subst e1
    refine V_istore (pc := 2723) dL_law_2723 (by decide) rfl ?_
    refine V_aload_n (pc := 2725) (i := 2) dL_law_2725 rfl rfl ?_
    refine J_M (pc := 2726) dL_law_2726 cL_139 (J_thrown e2) rfl (Nat.le_of_ble_eq_true rfl) rfl (by omega) (Nat.le_of_ble_eq_true rfl) (fun v2 T2 hp => ?_)
    obtain ⟨r1, r2⟩ := hp
    subst r1; subst r2
    refine V_iload (pc := 2729) dL_law_2729 rfl ?_
    refine V_icmp_eq (pc := 2731) 2736 dL_law_2731 rfl (fun _ => ?_) (fun q => absurd rfl q)
    refine V_iload (pc := 2736) dL_law_2736 rfl ?_
    refine V_if_ne (pc := 2738) 2753 dL_law_2738 rfl (fun q => absurd rfl q) (fun _ => ?_)
    refine V_aload_n (pc := 2741) (i := 3) dL_law_2741 rfl rfl ?_
    refine V_iconst (pc := 2742) (v := 0) dL_law_2742 (by decide) ?_
    refine J_lald (pc := 2743) dL_law_2743 updL0 ?_
    refine V_iload (pc := 2744) dL_law_2744 rfl ?_
    refine V_i2l (pc := 2746) dL_law_2746 rfl ?_
    refine V_lcmp (pc := 2747) dL_law_2747 ?_
    rw [cmp_0]
    refine V_if_eq (pc := 2748) 2753 dL_law_2748 rfl (fun _ => ?_) (fun q => absurd rfl q)
    refine V_goto (pc := 2753) 2780 dL_law_2753 rfl ?_
    exact V_bud (by omega) (by omega) (nxt _ _ _ _ _ _ e3)
  · refine V_aload_n (pc := 2676) (i := 1) dL_law_2676 rfl rfl ?_
    refine V_aload_n (pc := 2677) (i := 0) dL_law_2677 rfl rfl ?_
    refine V_iload (pc := 2678) dL_law_2678 rfl ?_
    refine V_iconst (pc := 2680) (v := 1) dL_law_2680 (by decide) ?_
    refine V_iadd (pc := 2681) dL_law_2681 ?_
    refine J_ld (pc := 2682) (j := i + 1) dL_law_2682 hq hs (nI_add i 1) (by omega) hL ?_
    refine V_aload_n (pc := 2683) (i := 0) dL_law_2683 rfl rfl ?_
    refine V_iload (pc := 2684) dL_law_2684 rfl ?_
    refine V_iconst (pc := 2686) (v := 2) dL_law_2686 (by decide) ?_
    refine V_iadd (pc := 2687) dL_law_2687 ?_
    refine J_ld (pc := 2688) (j := i + 2) dL_law_2688 hq hs (nI_add i 2) (by omega) hL ?_
    refine V_aload_n (pc := 2689) (i := 0) dL_law_2689 rfl rfl ?_
    refine V_iload (pc := 2690) dL_law_2690 rfl ?_
    refine V_iconst (pc := 2692) (v := 3) dL_law_2692 (by decide) ?_
    refine V_iadd (pc := 2693) dL_law_2693 ?_
    refine J_ld (pc := 2694) (j := i + 3) dL_law_2694 hq hs (nI_add i 3) (by omega) hL ?_
    refine V_aload_n (pc := 2695) (i := 3) dL_law_2695 rfl rfl ?_
    refine J_Sth (pc := 2696) (bc := m) (bs := 6 * m) dL_law_2696 cL_274 (L_years_NSE (d := 90) (fun h0 => kC G b 80 h0 hb (by omega)) hb (by omega)) rfl (Nat.le_of_ble_eq_true rfl) rfl (by omega) (Nat.le_of_ble_eq_true rfl) (fun y1 => ?_)
    refine V_istore (pc := 2699) dL_law_2699 (by decide) rfl ?_
    refine V_aload_n (pc := 2701) (i := 2) dL_law_2701 rfl rfl ?_
    refine V_aload_n (pc := 2702) (i := 0) dL_law_2702 rfl rfl ?_
    refine V_iload (pc := 2703) dL_law_2703 rfl ?_
    refine V_iconst (pc := 2705) (v := 1) dL_law_2705 (by decide) ?_
    refine V_iadd (pc := 2706) dL_law_2706 ?_
    refine J_ld (pc := 2707) (j := i + 1) dL_law_2707 hq hs (nI_add i 1) (by omega) hL ?_
    refine V_aload_n (pc := 2708) (i := 0) dL_law_2708 rfl rfl ?_
    refine V_iload (pc := 2709) dL_law_2709 rfl ?_
    refine V_iconst (pc := 2711) (v := 2) dL_law_2711 (by decide) ?_
    refine V_iadd (pc := 2712) dL_law_2712 ?_
    refine J_ld (pc := 2713) (j := i + 2) dL_law_2713 hq hs (nI_add i 2) (by omega) hL ?_
    refine V_aload_n (pc := 2714) (i := 0) dL_law_2714 rfl rfl ?_
    refine V_iload (pc := 2715) dL_law_2715 rfl ?_
    refine V_iconst (pc := 2717) (v := 3) dL_law_2717 (by decide) ?_
    refine V_iadd (pc := 2718) dL_law_2718 ?_
    refine J_ld (pc := 2719) (j := i + 3) dL_law_2719 hq hs (nI_add i 3) (by omega) hL ?_
    refine J_M (pc := 2720) dL_law_2720 cL_276 (fun h0 => kM G (b + 68) 80 h0 (by omega) (by omega)) rfl (Nat.le_of_ble_eq_true rfl) rfl (by omega) (Nat.le_of_ble_eq_true rfl) (fun v1 T1 hp => ?_)
    obtain ⟨e1, e2, e3⟩ := hp
    subst e1
    refine V_istore (pc := 2723) dL_law_2723 (by decide) rfl ?_
    refine V_aload_n (pc := 2725) (i := 2) dL_law_2725 rfl rfl ?_
    refine J_M (pc := 2726) dL_law_2726 cL_139 (J_thrown e2) rfl (Nat.le_of_ble_eq_true rfl) rfl (by omega) (Nat.le_of_ble_eq_true rfl) (fun v2 T2 hp => ?_)
    obtain ⟨r1, r2⟩ := hp
    subst r1; subst r2
    refine V_iload (pc := 2729) dL_law_2729 rfl ?_
    refine V_icmp_eq (pc := 2731) 2736 dL_law_2731 rfl (fun _ => ?_) (fun q => absurd rfl q)
    refine V_iload (pc := 2736) dL_law_2736 rfl ?_
    refine V_if_ne (pc := 2738) 2753 dL_law_2738 rfl (fun _ => ?_) (fun q => absurd q (by decide))
    refine V_goto (pc := 2753) 2780 dL_law_2753 rfl ?_
    exact V_bud (by omega) (by omega) (nxt _ _ _ _ _ _ e3)
  · refine V_aload_n (pc := 2676) (i := 1) dL_law_2676 rfl rfl ?_
    refine V_aload_n (pc := 2677) (i := 0) dL_law_2677 rfl rfl ?_
    refine V_iload (pc := 2678) dL_law_2678 rfl ?_
    refine V_iconst (pc := 2680) (v := 1) dL_law_2680 (by decide) ?_
    refine V_iadd (pc := 2681) dL_law_2681 ?_
    refine J_ld (pc := 2682) (j := i + 1) dL_law_2682 hq hs (nI_add i 1) (by omega) hL ?_
    refine V_aload_n (pc := 2683) (i := 0) dL_law_2683 rfl rfl ?_
    refine V_iload (pc := 2684) dL_law_2684 rfl ?_
    refine V_iconst (pc := 2686) (v := 2) dL_law_2686 (by decide) ?_
    refine V_iadd (pc := 2687) dL_law_2687 ?_
    refine J_ld (pc := 2688) (j := i + 2) dL_law_2688 hq hs (nI_add i 2) (by omega) hL ?_
    refine V_aload_n (pc := 2689) (i := 0) dL_law_2689 rfl rfl ?_
    refine V_iload (pc := 2690) dL_law_2690 rfl ?_
    refine V_iconst (pc := 2692) (v := 3) dL_law_2692 (by decide) ?_
    refine V_iadd (pc := 2693) dL_law_2693 ?_
    refine J_ld (pc := 2694) (j := i + 3) dL_law_2694 hq hs (nI_add i 3) (by omega) hL ?_
    refine V_aload_n (pc := 2695) (i := 3) dL_law_2695 rfl rfl ?_
    refine J_Sth (pc := 2696) (bc := m) (bs := 6 * m) dL_law_2696 cL_274 (L_years_IAE (d := 90) (fun h0 => kC G b 80 h0 hb (by omega)) hb (by omega)) rfl (Nat.le_of_ble_eq_true rfl) rfl (by omega) (Nat.le_of_ble_eq_true rfl) (fun y1 => ?_)
    refine V_istore (pc := 2699) dL_law_2699 (by decide) rfl ?_
    refine V_aload_n (pc := 2701) (i := 2) dL_law_2701 rfl rfl ?_
    refine V_aload_n (pc := 2702) (i := 0) dL_law_2702 rfl rfl ?_
    refine V_iload (pc := 2703) dL_law_2703 rfl ?_
    refine V_iconst (pc := 2705) (v := 1) dL_law_2705 (by decide) ?_
    refine V_iadd (pc := 2706) dL_law_2706 ?_
    refine J_ld (pc := 2707) (j := i + 1) dL_law_2707 hq hs (nI_add i 1) (by omega) hL ?_
    refine V_aload_n (pc := 2708) (i := 0) dL_law_2708 rfl rfl ?_
    refine V_iload (pc := 2709) dL_law_2709 rfl ?_
    refine V_iconst (pc := 2711) (v := 2) dL_law_2711 (by decide) ?_
    refine V_iadd (pc := 2712) dL_law_2712 ?_
    refine J_ld (pc := 2713) (j := i + 2) dL_law_2713 hq hs (nI_add i 2) (by omega) hL ?_
    refine V_aload_n (pc := 2714) (i := 0) dL_law_2714 rfl rfl ?_
    refine V_iload (pc := 2715) dL_law_2715 rfl ?_
    refine V_iconst (pc := 2717) (v := 3) dL_law_2717 (by decide) ?_
    refine V_iadd (pc := 2718) dL_law_2718 ?_
    refine J_ld (pc := 2719) (j := i + 3) dL_law_2719 hq hs (nI_add i 3) (by omega) hL ?_
    refine J_M (pc := 2720) dL_law_2720 cL_276 (fun h0 => kM G (b + 68) 80 h0 (by omega) (by omega)) rfl (Nat.le_of_ble_eq_true rfl) rfl (by omega) (Nat.le_of_ble_eq_true rfl) (fun v1 T1 hp => ?_)
    obtain ⟨e1, e2, e3⟩ := hp
    subst e1
    refine V_istore (pc := 2723) dL_law_2723 (by decide) rfl ?_
    refine V_aload_n (pc := 2725) (i := 2) dL_law_2725 rfl rfl ?_
    refine J_M (pc := 2726) dL_law_2726 cL_139 (J_thrown e2) rfl (Nat.le_of_ble_eq_true rfl) rfl (by omega) (Nat.le_of_ble_eq_true rfl) (fun v2 T2 hp => ?_)
    obtain ⟨r1, r2⟩ := hp
    subst r1; subst r2
    refine V_iload (pc := 2729) dL_law_2729 rfl ?_
    refine V_icmp_eq (pc := 2731) 2736 dL_law_2731 rfl (fun _ => ?_) (fun q => absurd rfl q)
    refine V_iload (pc := 2736) dL_law_2736 rfl ?_
    refine V_if_ne (pc := 2738) 2753 dL_law_2738 rfl (fun _ => ?_) (fun q => absurd q (by decide))
    refine V_goto (pc := 2753) 2780 dL_law_2753 rfl ?_
    exact V_bud (by omega) (by omega) (nxt _ _ _ _ _ _ e3)
theorem law_image {i m q L : Nat} {xs : Nat → Int32} (hq : gV G 100 = q) (hs : gV G 101 = L ∧ ∀ j, nI (gV G (1000 + j)) = xs j) (hL : L ≤ 3072) (hi : i + 6 ≤ L) (hb : gB G ≤ b) (hd : 100 ≤ d) (rel : REL S T) (nxt : ∀ S' T' fo' y' l5 l6, REL S' T' → V G mL_law d m (6 * m) Q 2780 [some (.ref q), some (.ref (b + 0)), some (.ref (b + 68 + 0)), some (.ref (b + 68 + 35)), some (.int (nI i)), l5, l6] [] (jH G b S' T' fo' hS y')) : V G mL_law d (m + 1) (6 * m + 6) Q 2756 [some (.ref q), some (.ref (b + 0)), some (.ref (b + 68 + 0)), some (.ref (b + 68 + 35)), some (.int (nI i)), none, none] [] (jH G b S T fo hS y) := by
  obtain ⟨S1, kC, kM⟩ := pr_image rel
  refine V_aload_n (pc := 2756) (i := 1) dL_law_2756 rfl rfl ?_
  refine J_C (pc := 2757) dL_law_2757 cL_277 (fun h0 => kC G b 80 h0 hb (by omega)) rfl (Nat.le_of_ble_eq_true rfl) rfl (by omega) (Nat.le_of_ble_eq_true rfl) ?_
  refine V_aload_n (pc := 2760) (i := 2) dL_law_2760 rfl rfl ?_
  refine J_M (pc := 2761) dL_law_2761 cL_280 (fun h0 => kM G (b + 68) 80 h0 (by omega) (by omega)) rfl (Nat.le_of_ble_eq_true rfl) rfl (by omega) (Nat.le_of_ble_eq_true rfl) (fun v1 T1 hp => ?_)
  obtain ⟨e1, e2, e3⟩ := hp
  subst e1
  refine V_goto (pc := 2764) 2780 dL_law_2764 rfl ?_
  exact V_bud (by omega) (by omega) (nxt _ _ _ _ _ _ e3)
theorem law_restore {i m q L : Nat} {xs : Nat → Int32} (hq : gV G 100 = q) (hs : gV G 101 = L ∧ ∀ j, nI (gV G (1000 + j)) = xs j) (hL : L ≤ 3072) (hi : i + 6 ≤ L) (hb : gB G ≤ b) (hd : 100 ≤ d) (rel : REL S T) (nxt : ∀ S' T' fo' y' l5 l6, REL S' T' → V G mL_law d m (6 * m) Q 2780 [some (.ref q), some (.ref (b + 0)), some (.ref (b + 68 + 0)), some (.ref (b + 68 + 35)), some (.int (nI i)), l5, l6] [] (jH G b S' T' fo' hS y')) : V G mL_law d (m + 1) (6 * m + 6) Q 2767 [some (.ref q), some (.ref (b + 0)), some (.ref (b + 68 + 0)), some (.ref (b + 68 + 35)), some (.int (nI i)), none, none] [] (jH G b S T fo hS y) := by
  obtain ⟨v, S1, kC, kM⟩ := pr_restore rel
  refine V_aload_n (pc := 2767) (i := 1) dL_law_2767 rfl rfl ?_
  refine J_C (pc := 2768) dL_law_2768 cL_281 (fun h0 => kC G b 80 h0 hb (by omega)) rfl (Nat.le_of_ble_eq_true rfl) rfl (by omega) (Nat.le_of_ble_eq_true rfl) ?_
  refine V_aload_n (pc := 2771) (i := 2) dL_law_2771 rfl rfl ?_
  refine J_M (pc := 2772) dL_law_2772 cL_285 (fun h0 => kM G (b + 68) 80 h0 (by omega) (by omega)) rfl (Nat.le_of_ble_eq_true rfl) rfl (by omega) (Nat.le_of_ble_eq_true rfl) (fun v1 T1 hp => ?_)
  obtain ⟨e1, e2, e3⟩ := hp
  subst e1
  refine V_icmp_eq (pc := 2775) 2780 dL_law_2775 rfl (fun _ => ?_) (fun q => absurd rfl q)
  exact V_bud (by omega) (by omega) (nxt _ _ _ _ _ _ e3)
end J4
