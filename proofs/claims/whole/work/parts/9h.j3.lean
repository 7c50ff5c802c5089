/-! ===== the cases of the law ===== -/
section J3
variable {G : xG} {d : Nat} {Q : xR → xH → Prop} {b : Nat} {S T : Nat → Nat → Int32} {fo : Nat → Int64} {hS : Nat → Option xC} {y : Option Nat}
theorem law_first {i m q L : Nat} {xs : Nat → Int32} (hq : gV G 100 = q) (hs : gV G 101 = L ∧ ∀ j, nI (gV G (1000 + j)) = xs j) (hL : L ≤ 3072) (hi : i + 6 ≤ L) (hb : gB G ≤ b) (hd : 100 ≤ d) (rel : REL S T) (nxt : ∀ S' T' fo' y' l5 l6, REL S' T' → V G mL_law d m (6 * m) Q 2780 [some (.ref q), some (.ref (b + 0)), some (.ref (b + 68 + 0)), some (.ref (b + 68 + 35)), some (.int (nI i)), l5, l6] [] (jH G b S' T' fo' hS y')) : V G mL_law d (m + 1) (6 * m + 6) Q 1080 [some (.ref q), some (.ref (b + 0)), some (.ref (b + 68 + 0)), some (.ref (b + 68 + 35)), some (.int (nI i)), none, none] [] (jH G b S T fo hS y) := by
  rcases pr_first rel (xs (i + 1)) with ⟨v, S1, kC, kM⟩ | ⟨kC, kM⟩
  · refine V_aload_n (pc := 1080) (i := 1) dL_law_1080 rfl rfl ?_
    refine V_aload_n (pc := 1081) (i := 0) dL_law_1081 rfl rfl ?_
    refine V_iload (pc := 1082) dL_law_1082 rfl ?_
    refine V_iconst (pc := 1084) (v := 1) dL_law_1084 (by decide) ?_
    refine V_iadd (pc := 1085) dL_law_1085 ?_
    refine J_ld (pc := 1086) (j := i + 1) dL_law_1086 hq hs (nI_add i 1) (by omega) hL ?_
    refine V_aload_n (pc := 1087) (i := 3) dL_law_1087 rfl rfl ?_
    refine J_S (pc := 1088) dL_law_1088 cL_190 (L_first_ok (d := 90) (fun h0 => kC G b 80 h0 hb (by omega)) hb (by omega)) rfl (Nat.le_of_ble_eq_true rfl) rfl (by omega) (Nat.le_of_ble_eq_true rfl) ?_
    refine V_istore (pc := 1091) dL_law_1091 (by decide) rfl ?_
    refine V_aload_n (pc := 1093) (i := 2) dL_law_1093 rfl rfl ?_
    refine V_aload_n (pc := 1094) (i := 0) dL_law_1094 rfl rfl ?_
    refine V_iload (pc := 1095) dL_law_1095 rfl ?_
    refine V_iconst (pc := 1097) (v := 1) dL_law_1097 (by decide) ?_
    refine V_iadd (pc := 1098) dL_law_1098 ?_
    refine J_ld (pc := 1099) (j := i + 1) dL_law_1099 hq hs (nI_add i 1) (by omega) hL ?_
    refine J_M (pc := 1100) dL_law_1100 cL_192 (fun h0 => kM G (b + 68) 80 h0 (by omega) (by omega)) rfl (Nat.le_of_ble_eq_true rfl) rfl (by omega) (Nat.le_of_ble_eq_true rfl) (fun v1 T1 hp => ?_)
    obtain ⟨e1, e2, e3⟩ := hp
    subst e1
    refine V_istore (pc := 1103) dL_law_1103 (by decide) rfl ?_
    refine V_aload_n (pc := 1105) (i := 2) dL_law_1105 rfl rfl ?_
    refine J_M (pc := 1106) dL_law_1106 cL_139 (J_thrown e2) rfl (Nat.le_of_ble_eq_true rfl) rfl (by omega) (Nat.le_of_ble_eq_true rfl) (fun v2 T2 hp => ?_)
    obtain ⟨r1, r2⟩ := hp
    subst r1; subst r2
    refine V_iload (pc := 1109) dL_law_1109 rfl ?_
    refine V_icmp_eq (pc := 1111) 1116 dL_law_1111 rfl (fun _ => ?_) (fun q => absurd rfl q)
    refine V_iload (pc := 1116) dL_law_1116 rfl ?_
    refine V_if_ne (pc := 1118) 1133 dL_law_1118 rfl (fun q => absurd rfl q) (fun _ => ?_)
    refine V_aload_n (pc := 1121) (i := 3) dL_law_1121 rfl rfl ?_
    refine V_iconst (pc := 1122) (v := 0) dL_law_1122 (by decide) ?_
    refine J_lald (pc := 1123) dL_law_1123 updL0 ?_
    refine V_iload (pc := 1124) dL_law_1124 rfl ?_
    refine V_i2l (pc := 1126) dL_law_1126 rfl ?_
    refine V_lcmp (pc := 1127) dL_law_1127 ?_
    rw [cmp_0]
    refine V_if_eq (pc := 1128) 1133 dL_law_1128 rfl (fun _ => ?_) (fun q => absurd rfl q)
    refine V_goto (pc := 1133) 2780 dL_law_1133 rfl ?_
    exact V_bud (by omega) (by omega) (nxt _ _ _ _ _ _ e3)
  · refine V_aload_n (pc := 1080) (i := 1) dL_law_1080 rfl rfl ?_
    refine V_aload_n (pc := 1081) (i := 0) dL_law_1081 rfl rfl ?_
    refine V_iload (pc := 1082) dL_law_1082 rfl ?_
    refine V_iconst (pc := 1084) (v := 1) dL_law_1084 (by decide) ?_
    refine V_iadd (pc := 1085) dL_law_1085 ?_
    refine J_ld (pc := 1086) (j := i + 1) dL_law_1086 hq hs (nI_add i 1) (by omega) hL ?_
    refine V_aload_n (pc := 1087) (i := 3) dL_law_1087 rfl rfl ?_
    refine J_Sth (pc := 1088) (bc := m) (bs := 6 * m) dL_law_1088 cL_190 (L_first_NSE (d := 90) (fun h0 => kC G b 80 h0 hb (by omega)) hb (by omega)) rfl (Nat.le_of_ble_eq_true rfl) rfl (by omega) (Nat.le_of_ble_eq_true rfl) (fun y1 => ?_)
    refine V_istore (pc := 1091) dL_law_1091 (by decide) rfl ?_
    refine V_aload_n (pc := 1093) (i := 2) dL_law_1093 rfl rfl ?_
    refine V_aload_n (pc := 1094) (i := 0) dL_law_1094 rfl rfl ?_
    refine V_iload (pc := 1095) dL_law_1095 rfl ?_
    refine V_iconst (pc := 1097) (v := 1) dL_law_1097 (by decide) ?_
    refine V_iadd (pc := 1098) dL_law_1098 ?_
    refine J_ld (pc := 1099) (j := i + 1) dL_law_1099 hq hs (nI_add i 1) (by omega) hL ?_
    refine J_M (pc := 1100) dL_law_1100 cL_192 (fun h0 => kM G (b + 68) 80 h0 (by omega) (by omega)) rfl (Nat.le_of_ble_eq_true rfl) rfl (by omega) (Nat.le_of_ble_eq_true rfl) (fun v1 T1 hp => ?_)
    obtain ⟨e1, e2, e3⟩ := hp
    subst e1
    refine V_istore (pc := 1103) dL_law_1103 (by decide) rfl ?_
    refine V_aload_n (pc := 1105) (i := 2) dL_law_1105 rfl rfl ?_
    refine J_M (pc := 1106) dL_law_1106 cL_139 (J_thrown e2) rfl (Nat.le_of_ble_eq_true rfl) rfl (by omega) (Nat.le_of_ble_eq_true rfl) (fun v2 T2 hp => ?_)
    obtain ⟨r1, r2⟩ := hp
    subst r1; subst r2
    refine V_iload (pc := 1109) dL_law_1109 rfl ?_
    refine V_icmp_eq (pc := 1111) 1116 dL_law_1111 rfl (fun _ => ?_) (fun q => absurd rfl q)
    refine V_iload (pc := 1116) dL_law_1116 rfl ?_
    refine V_if_ne (pc := 1118) 1133 dL_law_1118 rfl (fun _ => ?_) (fun q => absurd q (by decide))
    refine V_goto (pc := 1133) 2780 dL_law_1133 rfl ?_
    exact V_bud (by omega) (by omega) (nxt _ _ _ _ _ _ e3)
theorem law_waiting {i m q L : Nat} {xs : Nat → Int32} (hq : gV G 100 = q) (hs : gV G 101 = L ∧ ∀ j, nI (gV G (1000 + j)) = xs j) (hL : L ≤ 3072) (hi : i + 6 ≤ L) (hb : gB G ≤ b) (hd : 100 ≤ d) (rel : REL S T) (nxt : ∀ S' T' fo' y' l5 l6, REL S' T' → V G mL_law d m (6 * m) Q 2780 [some (.ref q), some (.ref (b + 0)), some (.ref (b + 68 + 0)), some (.ref (b + 68 + 35)), some (.int (nI i)), l5, l6] [] (jH G b S' T' fo' hS y')) : V G mL_law d (m + 1) (6 * m + 6) Q 1136 [some (.ref q), some (.ref (b + 0)), some (.ref (b + 68 + 0)), some (.ref (b + 68 + 35)), some (.int (nI i)), none, none] [] (jH G b S T fo hS y) := by
  rcases pr_waiting rel (xs (i + 1)) (xs (i + 2)) with ⟨v, S1, kC, kM⟩ | ⟨kC, kM⟩ | ⟨kC, kM⟩
  · refine V_aload_n (pc := 1136) (i := 1) dL_law_1136 rfl rfl ?_
    refine V_aload_n (pc := 1137) (i := 0) dL_law_1137 rfl rfl ?_
    refine V_iload (pc := 1138) dL_law_1138 rfl ?_
    refine V_iconst (pc := 1140) (v := 1) dL_law_1140 (by decide) ?_
    refine V_iadd (pc := 1141) dL_law_1141 ?_
    refine J_ld (pc := 1142) (j := i + 1) dL_law_1142 hq hs (nI_add i 1) (by omega) hL ?_
    refine V_aload_n (pc := 1143) (i := 0) dL_law_1143 rfl rfl ?_
    refine V_iload (pc := 1144) dL_law_1144 rfl ?_
    refine V_iconst (pc := 1146) (v := 2) dL_law_1146 (by decide) ?_
    refine V_iadd (pc := 1147) dL_law_1147 ?_
    refine J_ld (pc := 1148) (j := i + 2) dL_law_1148 hq hs (nI_add i 2) (by omega) hL ?_
    refine V_aload_n (pc := 1149) (i := 3) dL_law_1149 rfl rfl ?_
    refine J_S (pc := 1150) dL_law_1150 cL_193 (L_waiting_ok (d := 90) (fun h0 => kC G b 80 h0 hb (by omega)) hb (by omega)) rfl (Nat.le_of_ble_eq_true rfl) rfl (by omega) (Nat.le_of_ble_eq_true rfl) ?_
    refine V_istore (pc := 1153) dL_law_1153 (by decide) rfl ?_
    refine V_aload_n (pc := 1155) (i := 2) dL_law_1155 rfl rfl ?_
    refine V_aload_n (pc := 1156) (i := 0) dL_law_1156 rfl rfl ?_
    refine V_iload (pc := 1157) dL_law_1157 rfl ?_
    refine V_iconst (pc := 1159) (v := 1) dL_law_1159 (by decide) ?_
    refine V_iadd (pc := 1160) dL_law_1160 ?_
    refine J_ld (pc := 1161) (j := i + 1) dL_law_1161 hq hs (nI_add i 1) (by omega) hL ?_
    refine V_aload_n (pc := 1162) (i := 0) dL_law_1162 rfl rfl ?_
    refine V_iload (pc := 1163) dL_law_1163 rfl ?_
    refine V_iconst (pc := 1165) (v := 2) dL_law_1165 (by decide) ?_
    refine V_iadd (pc := 1166) dL_law_1166 ?_
    refine J_ld (pc := 1167) (j := i + 2) dL_law_1167 hq hs (nI_add i 2) (by omega) hL ?_
    refine J_M (pc := 1168) dL_law_1168 cL_195 (fun h0 => kM G (b + 68) 80 h0 (by omega) (by omega)) rfl (Nat.le_of_ble_eq_true rfl) rfl (by omega) (Nat.le_of_ble_eq_true rfl) (fun v1 T1 hp => ?_)
    obtain ⟨e1, e2, e3⟩ := hp
    subst e1
    refine V_istore (pc := 1171) dL_law_1171 (by decide) rfl ?_
    refine V_aload_n (pc := 1173) (i := 2) dL_law_1173 rfl rfl ?_
    refine J_M (pc := 1174) dL_law_1174 cL_139 (J_thrown e2) rfl (Nat.le_of_ble_eq_true rfl) rfl (by omega) (Nat.le_of_ble_eq_true rfl) (fun v2 T2 hp => ?_)
    obtain ⟨r1, r2⟩ := hp
    subst r1; subst r2
    refine V_iload (pc := 1177) dL_law_1177 rfl ?_
    refine V_icmp_eq (pc := 1179) 1184 dL_law_1179 rfl (fun _ => ?_) (fun q => absurd rfl q)
    refine V_iload (pc := 1184) dL_law_1184 rfl ?_
    refine V_if_ne (pc := 1186) 1201 dL_law_1186 rfl (fun q => absurd rfl q) (fun _ => ?_)
    refine V_aload_n (pc := 1189) (i := 3) dL_law_1189 rfl rfl ?_
    refine V_iconst (pc := 1190) (v := 0) dL_law_1190 (by decide) ?_
    refine J_lald (pc := 1191) dL_law_1191 updL0 ?_
    refine V_iload (pc := 1192) dL_law_1192 rfl ?_
    refine V_i2l (pc := 1194) dL_law_1194 rfl ?_
    refine V_lcmp (pc := 1195) dL_law_1195 ?_
    rw [cmp_0]
    refine V_if_eq (pc := 1196) 1201 dL_law_1196 rfl (fun _ => ?_) (fun q => absurd rfl q)
    refine V_goto (pc := 1201) 2780 dL_law_1201 rfl ?_
    exact V_bud (by omega) (by omega) (nxt _ _ _ _ _ _ e3)
  · refine V_aload_n (pc := 1136) (i := 1) dL_law_1136 rfl rfl ?_
    refine V_aload_n (pc := 1137) (i := 0) dL_law_1137 rfl rfl ?_
    refine V_iload (pc := 1138) dL_law_1138 rfl ?_
    refine V_iconst (pc := 1140) (v := 1) dL_law_1140 (by decide) ?_
    refine V_iadd (pc := 1141) dL_law_1141 ?_
    refine J_ld (pc := 1142) (j := i + 1) dL_law_1142 hq hs (nI_add i 1) (by omega) hL ?_
    refine V_aload_n (pc := 1143) (i := 0) dL_law_1143 rfl rfl ?_
    refine V_iload (pc := 1144) dL_law_1144 rfl ?_
    refine V_iconst (pc := 1146) (v := 2) dL_law_1146 (by decide) ?_
    refine V_iadd (pc := 1147) dL_law_1147 ?_
    refine J_ld (pc := 1148) (j := i + 2) dL_law_1148 hq hs (nI_add i 2) (by omega) hL ?_
    refine V_aload_n (pc := 1149) (i := 3) dL_law_1149 rfl rfl ?_
    refine J_Sth (pc := 1150) (bc := m) (bs := 6 * m) dL_law_1150 cL_193 (L_waiting_NSE (d := 90) (fun h0 => kC G b 80 h0 hb (by omega)) hb (by omega)) rfl (Nat.le_of_ble_eq_true rfl) rfl (by omega) (Nat.le_of_ble_eq_true rfl) (fun y1 => ?_)
    refine V_istore (pc := 1153) dL_law_1153 (by decide) rfl ?_
    refine V_aload_n (pc := 1155) (i := 2) dL_law_1155 rfl rfl ?_
    refine V_aload_n (pc := 1156) (i := 0) dL_law_1156 rfl rfl ?_
    refine V_iload (pc := 1157) dL_law_1157 rfl ?_
    refine V_iconst (pc := 1159) (v := 1) dL_law_1159 (by decide) ?_
    refine V_iadd (pc := 1160) dL_law_1160 ?_
    refine J_ld (pc := 1161) (j := i + 1) dL_law_1161 hq hs (nI_add i 1) (by omega) hL ?_
    refine V_aload_n (pc := 1162) (i := 0) dL_law_1162 rfl rfl ?_
    refine V_iload (pc := 1163) dL_law_1163 rfl ?_
    refine V_iconst (pc := 1165) (v := 2) dL_law_1165 (by decide) ?_
    refine V_iadd (pc := 1166) dL_law_1166 ?_
    refine J_ld (pc := 1167) (j := i + 2) dL_law_1167 hq hs (nI_add i 2) (by omega) hL ?_
    refine J_M (pc := 1168) dL_law_1168 cL_195 (fun h0 => kM G (b + 68) 80 h0 (by omega) (by omega)) rfl (Nat.le_of_ble_eq_true rfl) rfl (by omega) (Nat.le_of_ble_eq_true rfl) (fun v1 T1 hp => ?_)
    obtain ⟨e1, e2, e3⟩ := hp
    subst e1
    refine V_istore (pc := 1171) dL_law_1171 (by decide) rfl ?_
    refine V_aload_n (pc := 1173) (i := 2) dL_law_1173 rfl rfl ?_
    refine J_M (pc := 1174) dL_law_1174 cL_139 (J_thrown e2) rfl (Nat.le_of_ble_eq_true rfl) rfl (by omega) (Nat.le_of_ble_eq_true rfl) (fun v2 T2 hp => ?_)
    obtain ⟨r1, r2⟩ := hp
    subst r1; subst r2
    refine V_iload (pc := 1177) dL_law_1177 rfl ?_
    refine V_icmp_eq (pc := 1179) 1184 dL_law_1179 rfl (fun _ => ?_) (fun q => absurd rfl q)
    refine V_iload (pc := 1184) dL_law_1184 rfl ?_
    refine V_if_ne (pc := 1186) 1201 dL_law_1186 rfl (fun _ => ?_) (fun q => absurd q (by decide))
    refine V_goto (pc := 1201) 2780 dL_law_1201 rfl ?_
    exact V_bud (by omega) (by omega) (nxt _ _ _ _ _ _ e3)
  · refine V_aload_n (pc := 1136) (i := 1) dL_law_1136 rfl rfl ?_
    refine V_aload_n (pc := 1137) (i := 0) dL_law_1137 rfl rfl ?_
    refine V_iload (pc := 1138) dL_law_1138 rfl ?_
    refine V_iconst (pc := 1140) (v := 1) dL_law_1140 (by decide) ?_
    refine V_iadd (pc := 1141) dL_law_1141 ?_
    refine J_ld (pc := 1142) (j := i + 1) dL_law_1142 hq hs (nI_add i 1) (by omega) hL ?_
    refine V_aload_n (pc := 1143) (i := 0) dL_law_1143 rfl rfl ?_
    refine V_iload (pc := 1144) dL_law_1144 rfl ?_
    refine V_iconst (pc := 1146) (v := 2) dL_law_1146 (by decide) ?_
    refine V_iadd (pc := 1147) dL_law_1147 ?_
    refine J_ld (pc := 1148) (j := i + 2) dL_law_1148 hq hs (nI_add i 2) (by omega) hL ?_
    refine V_aload_n (pc := 1149) (i := 3) dL_law_1149 rfl rfl ?_
    refine J_Sth (pc := 1150) (bc := m) (bs := 6 * m) dL_law_1150 cL_193 (L_waiting_IAE (d := 90) (fun h0 => kC G b 80 h0 hb (by omega)) hb (by omega)) rfl (Nat.le_of_ble_eq_true rfl) rfl (by omega) (Nat.le_of_ble_eq_true rfl) (fun y1 => ?_)
    refine V_istore (pc := 1153) dL_law_1153 (by decide) rfl ?_
    refine V_aload_n (pc := 1155) (i := 2) dL_law_1155 rfl rfl ?_
    refine V_aload_n (pc := 1156) (i := 0) dL_law_1156 rfl rfl ?_
    refine V_iload (pc := 1157) dL_law_1157 rfl ?_
    refine V_iconst (pc := 1159) (v := 1) dL_law_1159 (by decide) ?_
    refine V_iadd (pc := 1160) dL_law_1160 ?_
    refine J_ld (pc := 1161) (j := i + 1) dL_law_1161 hq hs (nI_add i 1) (by omega) hL ?_
    refine V_aload_n (pc := 1162) (i := 0) dL_law_1162 rfl rfl ?_
    refine V_iload (pc := 1163) dL_law_1163 rfl ?_
    refine V_iconst (pc := 1165) (v := 2) dL_law_1165 (by decide) ?_
    refine V_iadd (pc := 1166) dL_law_1166 ?_
    refine J_ld (pc := 1167) (j := i + 2) dL_law_1167 hq hs (nI_add i 2) (by omega) hL ?_
    refine J_M (pc := 1168) dL_law_1168 cL_195 (fun h0 => kM G (b + 68) 80 h0 (by omega) (by omega)) rfl (Nat.le_of_ble_eq_true rfl) rfl (by omega) (Nat.le_of_ble_eq_true rfl) (fun v1 T1 hp => ?_)
    obtain ⟨e1, e2, e3⟩ := hp
    subst e1
    refine V_istore (pc := 1171) dL_law_1171 (by decide) rfl ?_
    refine V_aload_n (pc := 1173) (i := 2) dL_law_1173 rfl rfl ?_
    refine J_M (pc := 1174) dL_law_1174 cL_139 (J_thrown e2) rfl (Nat.le_of_ble_eq_true rfl) rfl (by omega) (Nat.le_of_ble_eq_true rfl) (fun v2 T2 hp => ?_)
    obtain ⟨r1, r2⟩ := hp
    subst r1; subst r2
    refine V_iload (pc := 1177) dL_law_1177 rfl ?_
    refine V_icmp_eq (pc := 1179) 1184 dL_law_1179 rfl (fun _ => ?_) (fun q => absurd rfl q)
    refine V_iload (pc := 1184) dL_law_1184 rfl ?_
    refine V_if_ne (pc := 1186) 1201 dL_law_1186 rfl (fun _ => ?_) (fun q => absurd q (by decide))
    refine V_goto (pc := 1201) 2780 dL_law_1201 rfl ?_
    exact V_bud (by omega) (by omega) (nxt _ _ _ _ _ _ e3)
theorem law_toBear {i m q L : Nat} {xs : Nat → Int32} (hq : gV G 100 = q) (hs : gV G 101 = L ∧ ∀ j, nI (gV G (1000 + j)) = xs j) (hL : L ≤ 3072) (hi : i + 6 ≤ L) (hb : gB G ≤ b) (hd : 100 ≤ d) (rel : REL S T) (nxt : ∀ S' T' fo' y' l5 l6, REL S' T' → V G mL_law d m (6 * m) Q 2780 [some (.ref q), some (.ref (b + 0)), some (.ref (b + 68 + 0)), some (.ref (b + 68 + 35)), some (.int (nI i)), l5, l6] [] (jH G b S' T' fo' hS y')) : V G mL_law d (m + 1) (6 * m + 6) Q 1204 [some (.ref q), some (.ref (b + 0)), some (.ref (b + 68 + 0)), some (.ref (b + 68 + 35)), some (.int (nI i)), none, none] [] (jH G b S T fo hS y) := by
  rcases pr_toBear rel (xs (i + 1)) with ⟨v, S1, kC, kM⟩ | ⟨kC, kM⟩
  · refine V_aload_n (pc := 1204) (i := 1) dL_law_1204 rfl rfl ?_
    refine V_aload_n (pc := 1205) (i := 0) dL_law_1205 rfl rfl ?_
    refine V_iload (pc := 1206) dL_law_1206 rfl ?_
    refine V_iconst (pc := 1208) (v := 1) dL_law_1208 (by decide) ?_
    refine V_iadd (pc := 1209) dL_law_1209 ?_
    refine J_ld (pc := 1210) (j := i + 1) dL_law_1210 hq hs (nI_add i 1) (by omega) hL ?_
    refine V_aload_n (pc := 1211) (i := 3) dL_law_1211 rfl rfl ?_
    refine J_S (pc := 1212) dL_law_1212 cL_196 (L_toBear_ok (d := 90) (fun h0 => kC G b 80 h0 hb (by omega)) hb (by omega)) rfl (Nat.le_of_ble_eq_true rfl) rfl (by omega) (Nat.le_of_ble_eq_true rfl) ?_
    refine V_istore (pc := 1215) dL_law_1215 (by decide) rfl ?_
    refine V_aload_n (pc := 1217) (i := 2) dL_law_1217 rfl rfl ?_
    refine V_aload_n (pc := 1218) (i := 0) dL_law_1218 rfl rfl ?_
    refine V_iload (pc := 1219) dL_law_1219 rfl ?_
    refine V_iconst (pc := 1221) (v := 1) dL_law_1221 (by decide) ?_
    refine V_iadd (pc := 1222) dL_law_1222 ?_
    refine J_ld (pc := 1223) (j := i + 1) dL_law_1223 hq hs (nI_add i 1) (by omega) hL ?_
    refine J_M (pc := 1224) dL_law_1224 cL_198 (fun h0 => kM G (b + 68) 80 h0 (by omega) (by omega)) rfl (Nat.le_of_ble_eq_true rfl) rfl (by omega) (Nat.le_of_ble_eq_true rfl) (fun v1 T1 hp => ?_)
    obtain ⟨e1, e2, e3⟩ := hp
    subst e1
    refine V_istore (pc := 1227) dL_law_1227 (by decide) rfl ?_
    refine V_aload_n (pc := 1229) (i := 2) dL_law_1229 rfl rfl ?_
    refine J_M (pc := 1230) dL_law_1230 cL_139 (J_thrown e2) rfl (Nat.le_of_ble_eq_true rfl) rfl (by omega) (Nat.le_of_ble_eq_true rfl) (fun v2 T2 hp => ?_)
    obtain ⟨r1, r2⟩ := hp
    subst r1; subst r2
    refine V_iload (pc := 1233) dL_law_1233 rfl ?_
    refine V_icmp_eq (pc := 1235) 1240 dL_law_1235 rfl (fun _ => ?_) (fun q => absurd rfl q)
    refine V_iload (pc := 1240) dL_law_1240 rfl ?_
    refine V_if_ne (pc := 1242) 1257 dL_law_1242 rfl (fun q => absurd rfl q) (fun _ => ?_)
    refine V_aload_n (pc := 1245) (i := 3) dL_law_1245 rfl rfl ?_
    refine V_iconst (pc := 1246) (v := 0) dL_law_1246 (by decide) ?_
    refine J_lald (pc := 1247) dL_law_1247 updL0 ?_
    refine V_iload (pc := 1248) dL_law_1248 rfl ?_
    refine V_i2l (pc := 1250) dL_law_1250 rfl ?_
    refine V_lcmp (pc := 1251) dL_law_1251 ?_
    rw [cmp_0]
    refine V_if_eq (pc := 1252) 1257 dL_law_1252 rfl (fun _ => ?_) (fun q => absurd rfl q)
    refine V_goto (pc := 1257) 2780 dL_law_1257 rfl ?_
    exact V_bud (by omega) (by omega) (nxt _ _ _ _ _ _ e3)
  · refine V_aload_n (pc := 1204) (i := 1) dL_law_1204 rfl rfl ?_
    refine V_aload_n (pc := 1205) (i := 0) dL_law_1205 rfl rfl ?_
    refine V_iload (pc := 1206) dL_law_1206 rfl ?_
    refine V_iconst (pc := 1208) (v := 1) dL_law_1208 (by decide) ?_
    refine V_iadd (pc := 1209) dL_law_1209 ?_
    refine J_ld (pc := 1210) (j := i + 1) dL_law_1210 hq hs (nI_add i 1) (by omega) hL ?_
    refine V_aload_n (pc := 1211) (i := 3) dL_law_1211 rfl rfl ?_
    refine J_Sth (pc := 1212) (bc := m) (bs := 6 * m) dL_law_1212 cL_196 (L_toBear_IAE (d := 90) (fun h0 => kC G b 80 h0 hb (by omega)) hb (by omega)) rfl (Nat.le_of_ble_eq_true rfl) rfl (by omega) (Nat.le_of_ble_eq_true rfl) (fun y1 => ?_)
    refine V_istore (pc := 1215) dL_law_1215 (by decide) rfl ?_
    refine V_aload_n (pc := 1217) (i := 2) dL_law_1217 rfl rfl ?_
    refine V_aload_n (pc := 1218) (i := 0) dL_law_1218 rfl rfl ?_
    refine V_iload (pc := 1219) dL_law_1219 rfl ?_
    refine V_iconst (pc := 1221) (v := 1) dL_law_1221 (by decide) ?_
    refine V_iadd (pc := 1222) dL_law_1222 ?_
    refine J_ld (pc := 1223) (j := i + 1) dL_law_1223 hq hs (nI_add i 1) (by omega) hL ?_
    refine J_M (pc := 1224) dL_law_1224 cL_198 (fun h0 => kM G (b + 68) 80 h0 (by omega) (by omega)) rfl (Nat.le_of_ble_eq_true rfl) rfl (by omega) (Nat.le_of_ble_eq_true rfl) (fun v1 T1 hp => ?_)
    obtain ⟨e1, e2, e3⟩ := hp
    subst e1
    refine V_istore (pc := 1227) dL_law_1227 (by decide) rfl ?_
    refine V_aload_n (pc := 1229) (i := 2) dL_law_1229 rfl rfl ?_
    refine J_M (pc := 1230) dL_law_1230 cL_139 (J_thrown e2) rfl (Nat.le_of_ble_eq_true rfl) rfl (by omega) (Nat.le_of_ble_eq_true rfl) (fun v2 T2 hp => ?_)
    obtain ⟨r1, r2⟩ := hp
    subst r1; subst r2
    refine V_iload (pc := 1233) dL_law_1233 rfl ?_
    refine V_icmp_eq (pc := 1235) 1240 dL_law_1235 rfl (fun _ => ?_) (fun q => absurd rfl q)
    refine V_iload (pc := 1240) dL_law_1240 rfl ?_
    refine V_if_ne (pc := 1242) 1257 dL_law_1242 rfl (fun _ => ?_) (fun q => absurd q (by decide))
    refine V_goto (pc := 1257) 2780 dL_law_1257 rfl ?_
    exact V_bud (by omega) (by omega) (nxt _ _ _ _ _ _ e3)
theorem law_comes {i m q L : Nat} {xs : Nat → Int32} (hq : gV G 100 = q) (hs : gV G 101 = L ∧ ∀ j, nI (gV G (1000 + j)) = xs j) (hL : L ≤ 3072) (hi : i + 6 ≤ L) (hb : gB G ≤ b) (hd : 100 ≤ d) (rel : REL S T) (nxt : ∀ S' T' fo' y' l5 l6, REL S' T' → V G mL_law d m (6 * m) Q 2780 [some (.ref q), some (.ref (b + 0)), some (.ref (b + 68 + 0)), some (.ref (b + 68 + 35)), some (.int (nI i)), l5, l6] [] (jH G b S' T' fo' hS y')) : V G mL_law d (m + 1) (6 * m + 6) Q 1260 [some (.ref q), some (.ref (b + 0)), some (.ref (b + 68 + 0)), some (.ref (b + 68 + 35)), some (.int (nI i)), none, none] [] (jH G b S T fo hS y) := by
  rcases pr_comes rel (xs (i + 1)) with ⟨v, S1, kC, kM⟩ | ⟨kC, kM⟩
  · refine V_aload_n (pc := 1260) (i := 1) dL_law_1260 rfl rfl ?_
    refine V_aload_n (pc := 1261) (i := 0) dL_law_1261 rfl rfl ?_
    refine V_iload (pc := 1262) dL_law_1262 rfl ?_
    refine V_iconst (pc := 1264) (v := 1) dL_law_1264 (by decide) ?_
    refine V_iadd (pc := 1265) dL_law_1265 ?_
    refine J_ld (pc := 1266) (j := i + 1) dL_law_1266 hq hs (nI_add i 1) (by omega) hL ?_
    refine V_aload_n (pc := 1267) (i := 3) dL_law_1267 rfl rfl ?_
    refine J_S (pc := 1268) dL_law_1268 cL_199 (L_comes_ok (d := 90) (fun h0 => kC G b 80 h0 hb (by omega)) hb (by omega)) rfl (Nat.le_of_ble_eq_true rfl) rfl (by omega) (Nat.le_of_ble_eq_true rfl) ?_
    refine V_istore (pc := 1271) dL_law_1271 (by decide) rfl ?_
    refine V_aload_n (pc := 1273) (i := 2) dL_law_1273 rfl rfl ?_
    refine V_aload_n (pc := 1274) (i := 0) dL_law_1274 rfl rfl ?_
    refine V_iload (pc := 1275) dL_law_1275 rfl ?_
    refine V_iconst (pc := 1277) (v := 1) dL_law_1277 (by decide) ?_
    refine V_iadd (pc := 1278) dL_law_1278 ?_
    refine J_ld (pc := 1279) (j := i + 1) dL_law_1279 hq hs (nI_add i 1) (by omega) hL ?_
    refine J_M (pc := 1280) dL_law_1280 cL_201 (fun h0 => kM G (b + 68) 80 h0 (by omega) (by omega)) rfl (Nat.le_of_ble_eq_true rfl) rfl (by omega) (Nat.le_of_ble_eq_true rfl) (fun v1 T1 hp => ?_)
    obtain ⟨e1, e2, e3⟩ := hp
    subst e1
    refine V_istore (pc := 1283) dL_law_1283 (by decide) rfl ?_
    refine V_aload_n (pc := 1285) (i := 2) dL_law_1285 rfl rfl ?_
    refine J_M (pc := 1286) dL_law_1286 cL_139 (J_thrown e2) rfl (Nat.le_of_ble_eq_true rfl) rfl (by omega) (Nat.le_of_ble_eq_true rfl) (fun v2 T2 hp => ?_)
    obtain ⟨r1, r2⟩ := hp
    subst r1; subst r2
    refine V_iload (pc := 1289) dL_law_1289 rfl ?_
    refine V_icmp_eq (pc := 1291) 1296 dL_law_1291 rfl (fun _ => ?_) (fun q => absurd rfl q)
    refine V_iload (pc := 1296) dL_law_1296 rfl ?_
    refine V_if_ne (pc := 1298) 1313 dL_law_1298 rfl (fun q => absurd rfl q) (fun _ => ?_)
    refine V_aload_n (pc := 1301) (i := 3) dL_law_1301 rfl rfl ?_
    refine V_iconst (pc := 1302) (v := 0) dL_law_1302 (by decide) ?_
    refine J_lald (pc := 1303) dL_law_1303 updL0 ?_
    refine V_iload (pc := 1304) dL_law_1304 rfl ?_
    refine V_i2l (pc := 1306) dL_law_1306 rfl ?_
    refine V_lcmp (pc := 1307) dL_law_1307 ?_
    rw [cmp_0]
    refine V_if_eq (pc := 1308) 1313 dL_law_1308 rfl (fun _ => ?_) (fun q => absurd rfl q)
    refine V_goto (pc := 1313) 2780 dL_law_1313 rfl ?_
    exact V_bud (by omega) (by omega) (nxt _ _ _ _ _ _ e3)
  · refine V_aload_n (pc := 1260) (i := 1) dL_law_1260 rfl rfl ?_
    refine V_aload_n (pc := 1261) (i := 0) dL_law_1261 rfl rfl ?_
    refine V_iload (pc := 1262) dL_law_1262 rfl ?_
    refine V_iconst (pc := 1264) (v := 1) dL_law_1264 (by decide) ?_
    refine V_iadd (pc := 1265) dL_law_1265 ?_
    refine J_ld (pc := 1266) (j := i + 1) dL_law_1266 hq hs (nI_add i 1) (by omega) hL ?_
    refine V_aload_n (pc := 1267) (i := 3) dL_law_1267 rfl rfl ?_
    refine J_Sth (pc := 1268) (bc := m) (bs := 6 * m) dL_law_1268 cL_199 (L_comes_IAE (d := 90) (fun h0 => kC G b 80 h0 hb (by omega)) hb (by omega)) rfl (Nat.le_of_ble_eq_true rfl) rfl (by omega) (Nat.le_of_ble_eq_true rfl) (fun y1 => ?_)
    refine V_istore (pc := 1271) dL_law_1271 (by decide) rfl ?_
    refine V_aload_n (pc := 1273) (i := 2) dL_law_1273 rfl rfl ?_
    refine V_aload_n (pc := 1274) (i := 0) dL_law_1274 rfl rfl ?_
    refine V_iload (pc := 1275) dL_law_1275 rfl ?_
    refine V_iconst (pc := 1277) (v := 1) dL_law_1277 (by decide) ?_
    refine V_iadd (pc := 1278) dL_law_1278 ?_
    refine J_ld (pc := 1279) (j := i + 1) dL_law_1279 hq hs (nI_add i 1) (by omega) hL ?_
    refine J_M (pc := 1280) dL_law_1280 cL_201 (fun h0 => kM G (b + 68) 80 h0 (by omega) (by omega)) rfl (Nat.le_of_ble_eq_true rfl) rfl (by omega) (Nat.le_of_ble_eq_true rfl) (fun v1 T1 hp => ?_)
    obtain ⟨e1, e2, e3⟩ := hp
    subst e1
    refine V_istore (pc := 1283) dL_law_1283 (by decide) rfl ?_
    refine V_aload_n (pc := 1285) (i := 2) dL_law_1285 rfl rfl ?_
    refine J_M (pc := 1286) dL_law_1286 cL_139 (J_thrown e2) rfl (Nat.le_of_ble_eq_true rfl) rfl (by omega) (Nat.le_of_ble_eq_true rfl) (fun v2 T2 hp => ?_)
    obtain ⟨r1, r2⟩ := hp
    subst r1; subst r2
    refine V_iload (pc := 1289) dL_law_1289 rfl ?_
    refine V_icmp_eq (pc := 1291) 1296 dL_law_1291 rfl (fun _ => ?_) (fun q => absurd rfl q)
    refine V_iload (pc := 1296) dL_law_1296 rfl ?_
    refine V_if_ne (pc := 1298) 1313 dL_law_1298 rfl (fun _ => ?_) (fun q => absurd q (by decide))
    refine V_goto (pc := 1313) 2780 dL_law_1313 rfl ?_
    exact V_bud (by omega) (by omega) (nxt _ _ _ _ _ _ e3)
theorem law_why {i m q L : Nat} {xs : Nat → Int32} (hq : gV G 100 = q) (hs : gV G 101 = L ∧ ∀ j, nI (gV G (1000 + j)) = xs j) (hL : L ≤ 3072) (hi : i + 6 ≤ L) (hb : gB G ≤ b) (hd : 100 ≤ d) (rel : REL S T) (nxt : ∀ S' T' fo' y' l5 l6, REL S' T' → V G mL_law d m (6 * m) Q 2780 [some (.ref q), some (.ref (b + 0)), some (.ref (b + 68 + 0)), some (.ref (b + 68 + 35)), some (.int (nI i)), l5, l6] [] (jH G b S' T' fo' hS y')) : V G mL_law d (m + 1) (6 * m + 6) Q 1316 [some (.ref q), some (.ref (b + 0)), some (.ref (b + 68 + 0)), some (.ref (b + 68 + 35)), some (.int (nI i)), none, none] [] (jH G b S T fo hS y) := by
  rcases pr_why rel (xs (i + 1)) (xs (i + 2)) with ⟨v, S1, kC, kM⟩ | ⟨kC, kM⟩ | ⟨kC, kM⟩
  · refine V_aload_n (pc := 1316) (i := 1) dL_law_1316 rfl rfl ?_
    refine V_aload_n (pc := 1317) (i := 0) dL_law_1317 rfl rfl ?_
    refine V_iload (pc := 1318) dL_law_1318 rfl ?_
    refine V_iconst (pc := 1320) (v := 1) dL_law_1320 (by decide) ?_
    refine V_iadd (pc := 1321) dL_law_1321 ?_
    refine J_ld (pc := 1322) (j := i + 1) dL_law_1322 hq hs (nI_add i 1) (by omega) hL ?_
    refine V_aload_n (pc := 1323) (i := 0) dL_law_1323 rfl rfl ?_
    refine V_iload (pc := 1324) dL_law_1324 rfl ?_
    refine V_iconst (pc := 1326) (v := 2) dL_law_1326 (by decide) ?_
    refine V_iadd (pc := 1327) dL_law_1327 ?_
    refine J_ld (pc := 1328) (j := i + 2) dL_law_1328 hq hs (nI_add i 2) (by omega) hL ?_
    refine V_aload_n (pc := 1329) (i := 3) dL_law_1329 rfl rfl ?_
    refine J_S (pc := 1330) dL_law_1330 cL_202 (L_why_ok (d := 90) (fun h0 => kC G b 80 h0 hb (by omega)) hb (by omega)) rfl (Nat.le_of_ble_eq_true rfl) rfl (by omega) (Nat.le_of_ble_eq_true rfl) ?_
    refine V_istore (pc := 1333) dL_law_1333 (by decide) rfl ?_
    refine V_aload_n (pc := 1335) (i := 2) dL_law_1335 rfl rfl ?_
    refine V_aload_n (pc := 1336) (i := 0) dL_law_1336 rfl rfl ?_
    refine V_iload (pc := 1337) dL_law_1337 rfl ?_
    refine V_iconst (pc := 1339) (v := 1) dL_law_1339 (by decide) ?_
    refine V_iadd (pc := 1340) dL_law_1340 ?_
    refine J_ld (pc := 1341) (j := i + 1) dL_law_1341 hq hs (nI_add i 1) (by omega) hL ?_
    refine V_aload_n (pc := 1342) (i := 0) dL_law_1342 rfl rfl ?_
    refine V_iload (pc := 1343) dL_law_1343 rfl ?_
    refine V_iconst (pc := 1345) (v := 2) dL_law_1345 (by decide) ?_
    refine V_iadd (pc := 1346) dL_law_1346 ?_
    refine J_ld (pc := 1347) (j := i + 2) dL_law_1347 hq hs (nI_add i 2) (by omega) hL ?_
    refine J_M (pc := 1348) dL_law_1348 cL_204 (fun h0 => kM G (b + 68) 80 h0 (by omega) (by omega)) rfl (Nat.le_of_ble_eq_true rfl) rfl (by omega) (Nat.le_of_ble_eq_true rfl) (fun v1 T1 hp => ?_)
    obtain ⟨e1, e2, e3⟩ := hp
    subst e1
    refine V_istore (pc := 1351) dL_law_1351 (by decide) rfl ?_
    refine V_aload_n (pc := 1353) (i := 2) dL_law_1353 rfl rfl ?_
    refine J_M (pc := 1354) dL_law_1354 cL_139 (J_thrown e2) rfl (Nat.le_of_ble_eq_true rfl) rfl (by omega) (Nat.le_of_ble_eq_true rfl) (fun v2 T2 hp => ?_)
    obtain ⟨r1, r2⟩ := hp
    subst r1; subst r2
    refine V_iload (pc := 1357) dL_law_1357 rfl ?_
    refine V_icmp_eq (pc := 1359) 1364 dL_law_1359 rfl (fun _ => ?_) (fun q => absurd rfl q)
    refine V_iload (pc := 1364) dL_law_1364 rfl ?_
    refine V_if_ne (pc := 1366) 1381 dL_law_1366 rfl (fun q => absurd rfl q) (fun _ => ?_)
    refine V_aload_n (pc := 1369) (i := 3) dL_law_1369 rfl rfl ?_
    refine V_iconst (pc := 1370) (v := 0) dL_law_1370 (by decide) ?_
    refine J_lald (pc := 1371) dL_law_1371 updL0 ?_
    refine V_iload (pc := 1372) dL_law_1372 rfl ?_
    refine V_i2l (pc := 1374) dL_law_1374 rfl ?_
    refine V_lcmp (pc := 1375) dL_law_1375 ?_
    rw [cmp_0]
    refine V_if_eq (pc := 1376) 1381 dL_law_1376 rfl (fun _ => ?_) (fun q => absurd rfl q)
    refine V_goto (pc := 1381) 2780 dL_law_1381 rfl ?_
    exact V_bud (by omega) (by omega) (nxt _ _ _ _ _ _ e3)
  · refine V_aload_n (pc := 1316) (i := 1) dL_law_1316 rfl rfl ?_
    refine V_aload_n (pc := 1317) (i := 0) dL_law_1317 rfl rfl ?_
    refine V_iload (pc := 1318) dL_law_1318 rfl ?_
    refine V_iconst (pc := 1320) (v := 1) dL_law_1320 (by decide) ?_
    refine V_iadd (pc := 1321) dL_law_1321 ?_
    refine J_ld (pc := 1322) (j := i + 1) dL_law_1322 hq hs (nI_add i 1) (by omega) hL ?_
    refine V_aload_n (pc := 1323) (i := 0) dL_law_1323 rfl rfl ?_
    refine V_iload (pc := 1324) dL_law_1324 rfl ?_
    refine V_iconst (pc := 1326) (v := 2) dL_law_1326 (by decide) ?_
    refine V_iadd (pc := 1327) dL_law_1327 ?_
    refine J_ld (pc := 1328) (j := i + 2) dL_law_1328 hq hs (nI_add i 2) (by omega) hL ?_
    refine V_aload_n (pc := 1329) (i := 3) dL_law_1329 rfl rfl ?_
    refine J_Sth (pc := 1330) (bc := m) (bs := 6 * m) dL_law_1330 cL_202 (L_why_NSE (d := 90) (fun h0 => kC G b 80 h0 hb (by omega)) hb (by omega)) rfl (Nat.le_of_ble_eq_true rfl) rfl (by omega) (Nat.le_of_ble_eq_true rfl) (fun y1 => ?_)
    refine V_istore (pc := 1333) dL_law_1333 (by decide) rfl ?_
    refine V_aload_n (pc := 1335) (i := 2) dL_law_1335 rfl rfl ?_
    refine V_aload_n (pc := 1336) (i := 0) dL_law_1336 rfl rfl ?_
    refine V_iload (pc := 1337) dL_law_1337 rfl ?_
    refine V_iconst (pc := 1339) (v := 1) dL_law_1339 (by decide) ?_
    refine V_iadd (pc := 1340) dL_law_1340 ?_
    refine J_ld (pc := 1341) (j := i + 1) dL_law_1341 hq hs (nI_add i 1) (by omega) hL ?_
    refine V_aload_n (pc := 1342) (i := 0) dL_law_1342 rfl rfl ?_
    refine V_iload (pc := 1343) dL_law_1343 rfl ?_
    refine V_iconst (pc := 1345) (v := 2) dL_law_1345 (by decide) ?_
    refine V_iadd (pc := 1346) dL_law_1346 ?_
    refine J_ld (pc := 1347) (j := i + 2) dL_law_1347 hq hs (nI_add i 2) (by omega) hL ?_
    refine J_M (pc := 1348) dL_law_1348 cL_204 (fun h0 => kM G (b + 68) 80 h0 (by omega) (by omega)) rfl (Nat.le_of_ble_eq_true rfl) rfl (by omega) (Nat.le_of_ble_eq_true rfl) (fun v1 T1 hp => ?_)
    obtain ⟨e1, e2, e3⟩ := hp
    subst e1
    refine V_istore (pc := 1351) dL_law_1351 (by decide) rfl ?_
    refine V_aload_n (pc := 1353) (i := 2) dL_law_1353 rfl rfl ?_
    refine J_M (pc := 1354) dL_law_1354 cL_139 (J_thrown e2) rfl (Nat.le_of_ble_eq_true rfl) rfl (by omega) (Nat.le_of_ble_eq_true rfl) (fun v2 T2 hp => ?_)
    obtain ⟨r1, r2⟩ := hp
    subst r1; subst r2
    refine V_iload (pc := 1357) dL_law_1357 rfl ?_
    refine V_icmp_eq (pc := 1359) 1364 dL_law_1359 rfl (fun _ => ?_) (fun q => absurd rfl q)
    refine V_iload (pc := 1364) dL_law_1364 rfl ?_
    refine V_if_ne (pc := 1366) 1381 dL_law_1366 rfl (fun _ => ?_) (fun q => absurd q (by decide))
    refine V_goto (pc := 1381) 2780 dL_law_1381 rfl ?_
    exact V_bud (by omega) (by omega) (nxt _ _ _ _ _ _ e3)
  · refine V_aload_n (pc := 1316) (i := 1) dL_law_1316 rfl rfl ?_
    refine V_aload_n (pc := 1317) (i := 0) dL_law_1317 rfl rfl ?_
    refine V_iload (pc := 1318) dL_law_1318 rfl ?_
    refine V_iconst (pc := 1320) (v := 1) dL_law_1320 (by decide) ?_
    refine V_iadd (pc := 1321) dL_law_1321 ?_
    refine J_ld (pc := 1322) (j := i + 1) dL_law_1322 hq hs (nI_add i 1) (by omega) hL ?_
    refine V_aload_n (pc := 1323) (i := 0) dL_law_1323 rfl rfl ?_
    refine V_iload (pc := 1324) dL_law_1324 rfl ?_
    refine V_iconst (pc := 1326) (v := 2) dL_law_1326 (by decide) ?_
    refine V_iadd (pc := 1327) dL_law_1327 ?_
    refine J_ld (pc := 1328) (j := i + 2) dL_law_1328 hq hs (nI_add i 2) (by omega) hL ?_
    refine V_aload_n (pc := 1329) (i := 3) dL_law_1329 rfl rfl ?_
    refine J_Sth (pc := 1330) (bc := m) (bs := 6 * m) dL_law_1330 cL_202 (L_why_IAE (d := 90) (fun h0 => kC G b 80 h0 hb (by omega)) hb (by omega)) rfl (Nat.le_of_ble_eq_true rfl) rfl (by omega) (Nat.le_of_ble_eq_true rfl) (fun y1 => ?_)
    refine V_istore (pc := 1333) dL_law_1333 (by decide) rfl ?_
    refine V_aload_n (pc := 1335) (i := 2) dL_law_1335 rfl rfl ?_
    refine V_aload_n (pc := 1336) (i := 0) dL_law_1336 rfl rfl ?_
    refine V_iload (pc := 1337) dL_law_1337 rfl ?_
    refine V_iconst (pc := 1339) (v := 1) dL_law_1339 (by decide) ?_
    refine V_iadd (pc := 1340) dL_law_1340 ?_
    refine J_ld (pc := 1341) (j := i + 1) dL_law_1341 hq hs (nI_add i 1) (by omega) hL ?_
    refine V_aload_n (pc := 1342) (i := 0) dL_law_1342 rfl rfl ?_
    refine V_iload (pc := 1343) dL_law_1343 rfl ?_
    refine V_iconst (pc := 1345) (v := 2) dL_law_1345 (by decide) ?_
    refine V_iadd (pc := 1346) dL_law_1346 ?_
    refine J_ld (pc := 1347) (j := i + 2) dL_law_1347 hq hs (nI_add i 2) (by omega) hL ?_
    refine J_M (pc := 1348) dL_law_1348 cL_204 (fun h0 => kM G (b + 68) 80 h0 (by omega) (by omega)) rfl (Nat.le_of_ble_eq_true rfl) rfl (by omega) (Nat.le_of_ble_eq_true rfl) (fun v1 T1 hp => ?_)
    obtain ⟨e1, e2, e3⟩ := hp
    subst e1
    refine V_istore (pc := 1351) dL_law_1351 (by decide) rfl ?_
    refine V_aload_n (pc := 1353) (i := 2) dL_law_1353 rfl rfl ?_
    refine J_M (pc := 1354) dL_law_1354 cL_139 (J_thrown e2) rfl (Nat.le_of_ble_eq_true rfl) rfl (by omega) (Nat.le_of_ble_eq_true rfl) (fun v2 T2 hp => ?_)
    obtain ⟨r1, r2⟩ := hp
    subst r1; subst r2
    refine V_iload (pc := 1357) dL_law_1357 rfl ?_
    refine V_icmp_eq (pc := 1359) 1364 dL_law_1359 rfl (fun _ => ?_) (fun q => absurd rfl q)
    refine V_iload (pc := 1364) dL_law_1364 rfl ?_
    refine V_if_ne (pc := 1366) 1381 dL_law_1366 rfl (fun _ => ?_) (fun q => absurd q (by decide))
    refine V_goto (pc := 1381) 2780 dL_law_1381 rfl ?_
    exact V_bud (by omega) (by omega) (nxt _ _ _ _ _ _ e3)
theorem law_needed {i m q L : Nat} {xs : Nat → Int32} (hq : gV G 100 = q) (hs : gV G 101 = L ∧ ∀ j, nI (gV G (1000 + j)) = xs j) (hL : L ≤ 3072) (hi : i + 6 ≤ L) (hb : gB G ≤ b) (hd : 100 ≤ d) (rel : REL S T) (nxt : ∀ S' T' fo' y' l5 l6, REL S' T' → V G mL_law d m (6 * m) Q 2780 [some (.ref q), some (.ref (b + 0)), some (.ref (b + 68 + 0)), some (.ref (b + 68 + 35)), some (.int (nI i)), l5, l6] [] (jH G b S' T' fo' hS y')) : V G mL_law d (m + 1) (6 * m + 6) Q 1384 [some (.ref q), some (.ref (b + 0)), some (.ref (b + 68 + 0)), some (.ref (b + 68 + 35)), some (.int (nI i)), none, none] [] (jH G b S T fo hS y) := by
  rcases pr_needed rel (xs (i + 1)) (xs (i + 2)) with ⟨v, S1, kC, kM⟩ | ⟨kC, kM⟩ | ⟨kC, kM⟩
  · refine V_aload_n (pc := 1384) (i := 1) dL_law_1384 rfl rfl ?_
    refine V_aload_n (pc := 1385) (i := 0) dL_law_1385 rfl rfl ?_
    refine V_iload (pc := 1386) dL_law_1386 rfl ?_
    refine V_iconst (pc := 1388) (v := 1) dL_law_1388 (by decide) ?_
    refine V_iadd (pc := 1389) dL_law_1389 ?_
    refine J_ld (pc := 1390) (j := i + 1) dL_law_1390 hq hs (nI_add i 1) (by omega) hL ?_
    refine V_aload_n (pc := 1391) (i := 0) dL_law_1391 rfl rfl ?_
    refine V_iload (pc := 1392) dL_law_1392 rfl ?_
    refine V_iconst (pc := 1394) (v := 2) dL_law_1394 (by decide) ?_
    refine V_iadd (pc := 1395) dL_law_1395 ?_
    refine J_ld (pc := 1396) (j := i + 2) dL_law_1396 hq hs (nI_add i 2) (by omega) hL ?_
    refine V_aload_n (pc := 1397) (i := 3) dL_law_1397 rfl rfl ?_
    refine J_S (pc := 1398) dL_law_1398 cL_205 (L_needed_ok (d := 90) (fun h0 => kC G b 80 h0 hb (by omega)) hb (by omega)) rfl (Nat.le_of_ble_eq_true rfl) rfl (by omega) (Nat.le_of_ble_eq_true rfl) ?_
    refine V_istore (pc := 1401) dL_law_1401 (by decide) rfl ?_
    refine V_aload_n (pc := 1403) (i := 2) dL_law_1403 rfl rfl ?_
    refine V_aload_n (pc := 1404) (i := 0) dL_law_1404 rfl rfl ?_
    refine V_iload (pc := 1405) dL_law_1405 rfl ?_
    refine V_iconst (pc := 1407) (v := 1) dL_law_1407 (by decide) ?_
    refine V_iadd (pc := 1408) dL_law_1408 ?_
    refine J_ld (pc := 1409) (j := i + 1) dL_law_1409 hq hs (nI_add i 1) (by omega) hL ?_
    refine V_aload_n (pc := 1410) (i := 0) dL_law_1410 rfl rfl ?_
    refine V_iload (pc := 1411) dL_law_1411 rfl ?_
    refine V_iconst (pc := 1413) (v := 2) dL_law_1413 (by decide) ?_
    refine V_iadd (pc := 1414) dL_law_1414 ?_
    refine J_ld (pc := 1415) (j := i + 2) dL_law_1415 hq hs (nI_add i 2) (by omega) hL ?_
    refine J_M (pc := 1416) dL_law_1416 cL_207 (fun h0 => kM G (b + 68) 80 h0 (by omega) (by omega)) rfl (Nat.le_of_ble_eq_true rfl) rfl (by omega) (Nat.le_of_ble_eq_true rfl) (fun v1 T1 hp => ?_)
    obtain ⟨e1, e2, e3⟩ := hp
    subst e1
    refine V_istore (pc := 1419) dL_law_1419 (by decide) rfl ?_
    refine V_aload_n (pc := 1421) (i := 2) dL_law_1421 rfl rfl ?_
    refine J_M (pc := 1422) dL_law_1422 cL_139 (J_thrown e2) rfl (Nat.le_of_ble_eq_true rfl) rfl (by omega) (Nat.le_of_ble_eq_true rfl) (fun v2 T2 hp => ?_)
    obtain ⟨r1, r2⟩ := hp
    subst r1; subst r2
    refine V_iload (pc := 1425) dL_law_1425 rfl ?_
    refine V_icmp_eq (pc := 1427) 1432 dL_law_1427 rfl (fun _ => ?_) (fun q => absurd rfl q)
    refine V_iload (pc := 1432) dL_law_1432 rfl ?_
    refine V_if_ne (pc := 1434) 1449 dL_law_1434 rfl (fun q => absurd rfl q) (fun _ => ?_)
    refine V_aload_n (pc := 1437) (i := 3) dL_law_1437 rfl rfl ?_
    refine V_iconst (pc := 1438) (v := 0) dL_law_1438 (by decide) ?_
    refine J_lald (pc := 1439) dL_law_1439 updL0 ?_
    refine V_iload (pc := 1440) dL_law_1440 rfl ?_
    refine V_i2l (pc := 1442) dL_law_1442 rfl ?_
    refine V_lcmp (pc := 1443) dL_law_1443 ?_
    rw [cmp_0]
    refine V_if_eq (pc := 1444) 1449 dL_law_1444 rfl (fun _ => ?_) (fun q => absurd rfl q)
    refine V_goto (pc := 1449) 2780 dL_law_1449 rfl ?_
    exact V_bud (by omega) (by omega) (nxt _ _ _ _ _ _ e3)
  · refine V_aload_n (pc := 1384) (i := 1) dL_law_1384 rfl rfl ?_
    refine V_aload_n (pc := 1385) (i := 0) dL_law_1385 rfl rfl ?_
    refine V_iload (pc := 1386) dL_law_1386 rfl ?_
    refine V_iconst (pc := 1388) (v := 1) dL_law_1388 (by decide) ?_
    refine V_iadd (pc := 1389) dL_law_1389 ?_
    refine J_ld (pc := 1390) (j := i + 1) dL_law_1390 hq hs (nI_add i 1) (by omega) hL ?_
    refine V_aload_n (pc := 1391) (i := 0) dL_law_1391 rfl rfl ?_
    refine V_iload (pc := 1392) dL_law_1392 rfl ?_
    refine V_iconst (pc := 1394) (v := 2) dL_law_1394 (by decide) ?_
    refine V_iadd (pc := 1395) dL_law_1395 ?_
    refine J_ld (pc := 1396) (j := i + 2) dL_law_1396 hq hs (nI_add i 2) (by omega) hL ?_
    refine V_aload_n (pc := 1397) (i := 3) dL_law_1397 rfl rfl ?_
    refine J_Sth (pc := 1398) (bc := m) (bs := 6 * m) dL_law_1398 cL_205 (L_needed_NSE (d := 90) (fun h0 => kC G b 80 h0 hb (by omega)) hb (by omega)) rfl (Nat.le_of_ble_eq_true rfl) rfl (by omega) (Nat.le_of_ble_eq_true rfl) (fun y1 => ?_)
    refine V_istore (pc := 1401) dL_law_1401 (by decide) rfl ?_
    refine V_aload_n (pc := 1403) (i := 2) dL_law_1403 rfl rfl ?_
    refine V_aload_n (pc := 1404) (i := 0) dL_law_1404 rfl rfl ?_
    refine V_iload (pc := 1405) dL_law_1405 rfl ?_
    refine V_iconst (pc := 1407) (v := 1) dL_law_1407 (by decide) ?_
    refine V_iadd (pc := 1408) dL_law_1408 ?_
    refine J_ld (pc := 1409) (j := i + 1) dL_law_1409 hq hs (nI_add i 1) (by omega) hL ?_
    refine V_aload_n (pc := 1410) (i := 0) dL_law_1410 rfl rfl ?_
    refine V_iload (pc := 1411) dL_law_1411 rfl ?_
    refine V_iconst (pc := 1413) (v := 2) dL_law_1413 (by decide) ?_
    refine V_iadd (pc := 1414) dL_law_1414 ?_
    refine J_ld (pc := 1415) (j := i + 2) dL_law_1415 hq hs (nI_add i 2) (by omega) hL ?_
    refine J_M (pc := 1416) dL_law_1416 cL_207 (fun h0 => kM G (b + 68) 80 h0 (by omega) (by omega)) rfl (Nat.le_of_ble_eq_true rfl) rfl (by omega) (Nat.le_of_ble_eq_true rfl) (fun v1 T1 hp => ?_)
    obtain ⟨e1, e2, e3⟩ := hp
    subst e1
    refine V_istore (pc := 1419) dL_law_1419 (by decide) rfl ?_
    refine V_aload_n (pc := 1421) (i := 2) dL_law_1421 rfl rfl ?_
    refine J_M (pc := 1422) dL_law_1422 cL_139 (J_thrown e2) rfl (Nat.le_of_ble_eq_true rfl) rfl (by omega) (Nat.le_of_ble_eq_true rfl) (fun v2 T2 hp => ?_)
    obtain ⟨r1, r2⟩ := hp
    subst r1; subst r2
    refine V_iload (pc := 1425) dL_law_1425 rfl ?_
    refine V_icmp_eq (pc := 1427) 1432 dL_law_1427 rfl (fun _ => ?_) (fun q => absurd rfl q)
    refine V_iload (pc := 1432) dL_law_1432 rfl ?_
    refine V_if_ne (pc := 1434) 1449 dL_law_1434 rfl (fun _ => ?_) (fun q => absurd q (by decide))
    refine V_goto (pc := 1449) 2780 dL_law_1449 rfl ?_
    exact V_bud (by omega) (by omega) (nxt _ _ _ _ _ _ e3)
  · refine V_aload_n (pc := 1384) (i := 1) dL_law_1384 rfl rfl ?_
    refine V_aload_n (pc := 1385) (i := 0) dL_law_1385 rfl rfl ?_
    refine V_iload (pc := 1386) dL_law_1386 rfl ?_
    refine V_iconst (pc := 1388) (v := 1) dL_law_1388 (by decide) ?_
    refine V_iadd (pc := 1389) dL_law_1389 ?_
    refine J_ld (pc := 1390) (j := i + 1) dL_law_1390 hq hs (nI_add i 1) (by omega) hL ?_
    refine V_aload_n (pc := 1391) (i := 0) dL_law_1391 rfl rfl ?_
    refine V_iload (pc := 1392) dL_law_1392 rfl ?_
    refine V_iconst (pc := 1394) (v := 2) dL_law_1394 (by decide) ?_
    refine V_iadd (pc := 1395) dL_law_1395 ?_
    refine J_ld (pc := 1396) (j := i + 2) dL_law_1396 hq hs (nI_add i 2) (by omega) hL ?_
    refine V_aload_n (pc := 1397) (i := 3) dL_law_1397 rfl rfl ?_
    refine J_Sth (pc := 1398) (bc := m) (bs := 6 * m) dL_law_1398 cL_205 (L_needed_IAE (d := 90) (fun h0 => kC G b 80 h0 hb (by omega)) hb (by omega)) rfl (Nat.le_of_ble_eq_true rfl) rfl (by omega) (Nat.le_of_ble_eq_true rfl) (fun y1 => ?_)
    refine V_istore (pc := 1401) dL_law_1401 (by decide) rfl ?_
    refine V_aload_n (pc := 1403) (i := 2) dL_law_1403 rfl rfl ?_
    refine V_aload_n (pc := 1404) (i := 0) dL_law_1404 rfl rfl ?_
    refine V_iload (pc := 1405) dL_law_1405 rfl ?_
    refine V_iconst (pc := 1407) (v := 1) dL_law_1407 (by decide) ?_
    refine V_iadd (pc := 1408) dL_law_1408 ?_
    refine J_ld (pc := 1409) (j := i + 1) dL_law_1409 hq hs (nI_add i 1) (by omega) hL ?_
    refine V_aload_n (pc := 1410) (i := 0) dL_law_1410 rfl rfl ?_
    refine V_iload (pc := 1411) dL_law_1411 rfl ?_
    refine V_iconst (pc := 1413) (v := 2) dL_law_1413 (by decide) ?_
    refine V_iadd (pc := 1414) dL_law_1414 ?_
    refine J_ld (pc := 1415) (j := i + 2) dL_law_1415 hq hs (nI_add i 2) (by omega) hL ?_
    refine J_M (pc := 1416) dL_law_1416 cL_207 (fun h0 => kM G (b + 68) 80 h0 (by omega) (by omega)) rfl (Nat.le_of_ble_eq_true rfl) rfl (by omega) (Nat.le_of_ble_eq_true rfl) (fun v1 T1 hp => ?_)
    obtain ⟨e1, e2, e3⟩ := hp
    subst e1
    refine V_istore (pc := 1419) dL_law_1419 (by decide) rfl ?_
    refine V_aload_n (pc := 1421) (i := 2) dL_law_1421 rfl rfl ?_
    refine J_M (pc := 1422) dL_law_1422 cL_139 (J_thrown e2) rfl (Nat.le_of_ble_eq_true rfl) rfl (by omega) (Nat.le_of_ble_eq_true rfl) (fun v2 T2 hp => ?_)
    obtain ⟨r1, r2⟩ := hp
    subst r1; subst r2
    refine V_iload (pc := 1425) dL_law_1425 rfl ?_
    refine V_icmp_eq (pc := 1427) 1432 dL_law_1427 rfl (fun _ => ?_) (fun q => absurd rfl q)
    refine V_iload (pc := 1432) dL_law_1432 rfl ?_
    refine V_if_ne (pc := 1434) 1449 dL_law_1434 rfl (fun _ => ?_) (fun q => absurd q (by decide))
    refine V_goto (pc := 1449) 2780 dL_law_1449 rfl ?_
    exact V_bud (by omega) (by omega) (nxt _ _ _ _ _ _ e3)
theorem law_fewest {i m q L : Nat} {xs : Nat → Int32} (hq : gV G 100 = q) (hs : gV G 101 = L ∧ ∀ j, nI (gV G (1000 + j)) = xs j) (hL : L ≤ 3072) (hi : i + 6 ≤ L) (hb : gB G ≤ b) (hd : 100 ≤ d) (rel : REL S T) (nxt : ∀ S' T' fo' y' l5 l6, REL S' T' → V G mL_law d m (6 * m) Q 2780 [some (.ref q), some (.ref (b + 0)), some (.ref (b + 68 + 0)), some (.ref (b + 68 + 35)), some (.int (nI i)), l5, l6] [] (jH G b S' T' fo' hS y')) : V G mL_law d (m + 1) (6 * m + 6) Q 1452 [some (.ref q), some (.ref (b + 0)), some (.ref (b + 68 + 0)), some (.ref (b + 68 + 35)), some (.int (nI i)), none, none] [] (jH G b S T fo hS y) := by
  rcases pr_fewest rel (xs (i + 1)) (xs (i + 2)) with ⟨v, S1, kC, kM⟩ | ⟨kC, kM⟩ | ⟨kC, kM⟩
  · refine V_aload_n (pc := 1452) (i := 1) dL_law_1452 rfl rfl ?_
    refine V_aload_n (pc := 1453) (i := 0) dL_law_1453 rfl rfl ?_
    refine V_iload (pc := 1454) dL_law_1454 rfl ?_
    refine V_iconst (pc := 1456) (v := 1) dL_law_1456 (by decide) ?_
    refine V_iadd (pc := 1457) dL_law_1457 ?_
    refine J_ld (pc := 1458) (j := i + 1) dL_law_1458 hq hs (nI_add i 1) (by omega) hL ?_
    refine V_aload_n (pc := 1459) (i := 0) dL_law_1459 rfl rfl ?_
    refine V_iload (pc := 1460) dL_law_1460 rfl ?_
    refine V_iconst (pc := 1462) (v := 2) dL_law_1462 (by decide) ?_
    refine V_iadd (pc := 1463) dL_law_1463 ?_
    refine J_ld (pc := 1464) (j := i + 2) dL_law_1464 hq hs (nI_add i 2) (by omega) hL ?_
    refine V_aload_n (pc := 1465) (i := 3) dL_law_1465 rfl rfl ?_
    refine J_S (pc := 1466) dL_law_1466 cL_208 (L_fewest_ok (d := 90) (fun h0 => kC G b 80 h0 hb (by omega)) hb (by omega)) rfl (Nat.le_of_ble_eq_true rfl) rfl (by omega) (Nat.le_of_ble_eq_true rfl) ?_
    refine V_istore (pc := 1469) dL_law_1469 (by decide) rfl ?_
    refine V_aload_n (pc := 1471) (i := 2) dL_law_1471 rfl rfl ?_
    refine V_aload_n (pc := 1472) (i := 0) dL_law_1472 rfl rfl ?_
    refine V_iload (pc := 1473) dL_law_1473 rfl ?_
    refine V_iconst (pc := 1475) (v := 1) dL_law_1475 (by decide) ?_
    refine V_iadd (pc := 1476) dL_law_1476 ?_
    refine J_ld (pc := 1477) (j := i + 1) dL_law_1477 hq hs (nI_add i 1) (by omega) hL ?_
    refine V_aload_n (pc := 1478) (i := 0) dL_law_1478 rfl rfl ?_
    refine V_iload (pc := 1479) dL_law_1479 rfl ?_
    refine V_iconst (pc := 1481) (v := 2) dL_law_1481 (by decide) ?_
    refine V_iadd (pc := 1482) dL_law_1482 ?_
    refine J_ld (pc := 1483) (j := i + 2) dL_law_1483 hq hs (nI_add i 2) (by omega) hL ?_
    refine J_M (pc := 1484) dL_law_1484 cL_210 (fun h0 => kM G (b + 68) 80 h0 (by omega) (by omega)) rfl (Nat.le_of_ble_eq_true rfl) rfl (by omega) (Nat.le_of_ble_eq_true rfl) (fun v1 T1 hp => ?_)
    obtain ⟨e1, e2, e3⟩ := hp
    subst e1
    refine V_istore (pc := 1487) dL_law_1487 (by decide) rfl ?_
    refine V_aload_n (pc := 1489) (i := 2) dL_law_1489 rfl rfl ?_
    refine J_M (pc := 1490) dL_law_1490 cL_139 (J_thrown e2) rfl (Nat.le_of_ble_eq_true rfl) rfl (by omega) (Nat.le_of_ble_eq_true rfl) (fun v2 T2 hp => ?_)
    obtain ⟨r1, r2⟩ := hp
    subst r1; subst r2
    refine V_iload (pc := 1493) dL_law_1493 rfl ?_
    refine V_icmp_eq (pc := 1495) 1500 dL_law_1495 rfl (fun _ => ?_) (fun q => absurd rfl q)
    refine V_iload (pc := 1500) dL_law_1500 rfl ?_
    refine V_if_ne (pc := 1502) 1517 dL_law_1502 rfl (fun q => absurd rfl q) (fun _ => ?_)
    refine V_aload_n (pc := 1505) (i := 3) dL_law_1505 rfl rfl ?_
    refine V_iconst (pc := 1506) (v := 0) dL_law_1506 (by decide) ?_
    refine J_lald (pc := 1507) dL_law_1507 updL0 ?_
    refine V_iload (pc := 1508) dL_law_1508 rfl ?_
    refine V_i2l (pc := 1510) dL_law_1510 rfl ?_
    refine V_lcmp (pc := 1511) dL_law_1511 ?_
    rw [cmp_0]
    refine V_if_eq (pc := 1512) 1517 dL_law_1512 rfl (fun _ => ?_) (fun q => absurd rfl q)
    refine V_goto (pc := 1517) 2780 dL_law_1517 rfl ?_
    exact V_bud (by omega) (by omega) (nxt _ _ _ _ _ _ e3)
  · refine V_aload_n (pc := 1452) (i := 1) dL_law_1452 rfl rfl ?_
    refine V_aload_n (pc := 1453) (i := 0) dL_law_1453 rfl rfl ?_
    refine V_iload (pc := 1454) dL_law_1454 rfl ?_
    refine V_iconst (pc := 1456) (v := 1) dL_law_1456 (by decide) ?_
    refine V_iadd (pc := 1457) dL_law_1457 ?_
    refine J_ld (pc := 1458) (j := i + 1) dL_law_1458 hq hs (nI_add i 1) (by omega) hL ?_
    refine V_aload_n (pc := 1459) (i := 0) dL_law_1459 rfl rfl ?_
    refine V_iload (pc := 1460) dL_law_1460 rfl ?_
    refine V_iconst (pc := 1462) (v := 2) dL_law_1462 (by decide) ?_
    refine V_iadd (pc := 1463) dL_law_1463 ?_
    refine J_ld (pc := 1464) (j := i + 2) dL_law_1464 hq hs (nI_add i 2) (by omega) hL ?_
    refine V_aload_n (pc := 1465) (i := 3) dL_law_1465 rfl rfl ?_
    refine J_Sth (pc := 1466) (bc := m) (bs := 6 * m) dL_law_1466 cL_208 (L_fewest_NSE (d := 90) (fun h0 => kC G b 80 h0 hb (by omega)) hb (by omega)) rfl (Nat.le_of_ble_eq_true rfl) rfl (by omega) (Nat.le_of_ble_eq_true rfl) (fun y1 => ?_)
    refine V_istore (pc := 1469) dL_law_1469 (by decide) rfl ?_
    refine V_aload_n (pc := 1471) (i := 2) dL_law_1471 rfl rfl ?_
    refine V_aload_n (pc := 1472) (i := 0) dL_law_1472 rfl rfl ?_
    refine V_iload (pc := 1473) dL_law_1473 rfl ?_
    refine V_iconst (pc := 1475) (v := 1) dL_law_1475 (by decide) ?_
    refine V_iadd (pc := 1476) dL_law_1476 ?_
    refine J_ld (pc := 1477) (j := i + 1) dL_law_1477 hq hs (nI_add i 1) (by omega) hL ?_
    refine V_aload_n (pc := 1478) (i := 0) dL_law_1478 rfl rfl ?_
    refine V_iload (pc := 1479) dL_law_1479 rfl ?_
    refine V_iconst (pc := 1481) (v := 2) dL_law_1481 (by decide) ?_
    refine V_iadd (pc := 1482) dL_law_1482 ?_
    refine J_ld (pc := 1483) (j := i + 2) dL_law_1483 hq hs (nI_add i 2) (by omega) hL ?_
    refine J_M (pc := 1484) dL_law_1484 cL_210 (fun h0 => kM G (b + 68) 80 h0 (by omega) (by omega)) rfl (Nat.le_of_ble_eq_true rfl) rfl (by omega) (Nat.le_of_ble_eq_true rfl) (fun v1 T1 hp => ?_)
    obtain ⟨e1, e2, e3⟩ := hp
    subst e1
    refine V_istore (pc := 1487) dL_law_1487 (by decide) rfl ?_
    refine V_aload_n (pc := 1489) (i := 2) dL_law_1489 rfl rfl ?_
    refine J_M (pc := 1490) dL_law_1490 cL_139 (J_thrown e2) rfl (Nat.le_of_ble_eq_true rfl) rfl (by omega) (Nat.le_of_ble_eq_true rfl) (fun v2 T2 hp => ?_)
    obtain ⟨r1, r2⟩ := hp
    subst r1; subst r2
    refine V_iload (pc := 1493) dL_law_1493 rfl ?_
    refine V_icmp_eq (pc := 1495) 1500 dL_law_1495 rfl (fun _ => ?_) (fun q => absurd rfl q)
    refine V_iload (pc := 1500) dL_law_1500 rfl ?_
    refine V_if_ne (pc := 1502) 1517 dL_law_1502 rfl (fun _ => ?_) (fun q => absurd q (by decide))
    refine V_goto (pc := 1517) 2780 dL_law_1517 rfl ?_
    exact V_bud (by omega) (by omega) (nxt _ _ _ _ _ _ e3)
  · refine V_aload_n (pc := 1452) (i := 1) dL_law_1452 rfl rfl ?_
    refine V_aload_n (pc := 1453) (i := 0) dL_law_1453 rfl rfl ?_
    refine V_iload (pc := 1454) dL_law_1454 rfl ?_
    refine V_iconst (pc := 1456) (v := 1) dL_law_1456 (by decide) ?_
    refine V_iadd (pc := 1457) dL_law_1457 ?_
    refine J_ld (pc := 1458) (j := i + 1) dL_law_1458 hq hs (nI_add i 1) (by omega) hL ?_
    refine V_aload_n (pc := 1459) (i := 0) dL_law_1459 rfl rfl ?_
    refine V_iload (pc := 1460) dL_law_1460 rfl ?_
    refine V_iconst (pc := 1462) (v := 2) dL_law_1462 (by decide) ?_
    refine V_iadd (pc := 1463) dL_law_1463 ?_
    refine J_ld (pc := 1464) (j := i + 2) dL_law_1464 hq hs (nI_add i 2) (by omega) hL ?_
    refine V_aload_n (pc := 1465) (i := 3) dL_law_1465 rfl rfl ?_
    refine J_Sth (pc := 1466) (bc := m) (bs := 6 * m) dL_law_1466 cL_208 (L_fewest_IAE (d := 90) (fun h0 => kC G b 80 h0 hb (by omega)) hb (by omega)) rfl (Nat.le_of_ble_eq_true rfl) rfl (by omega) (Nat.le_of_ble_eq_true rfl) (fun y1 => ?_)
    refine V_istore (pc := 1469) dL_law_1469 (by decide) rfl ?_
    refine V_aload_n (pc := 1471) (i := 2) dL_law_1471 rfl rfl ?_
    refine V_aload_n (pc := 1472) (i := 0) dL_law_1472 rfl rfl ?_
    refine V_iload (pc := 1473) dL_law_1473 rfl ?_
    refine V_iconst (pc := 1475) (v := 1) dL_law_1475 (by decide) ?_
    refine V_iadd (pc := 1476) dL_law_1476 ?_
    refine J_ld (pc := 1477) (j := i + 1) dL_law_1477 hq hs (nI_add i 1) (by omega) hL ?_
    refine V_aload_n (pc := 1478) (i := 0) dL_law_1478 rfl rfl ?_
    refine V_iload (pc := 1479) dL_law_1479 rfl ?_
    refine V_iconst (pc := 1481) (v := 2) dL_law_1481 (by decide) ?_
    refine V_iadd (pc := 1482) dL_law_1482 ?_
    refine J_ld (pc := 1483) (j := i + 2) dL_law_1483 hq hs (nI_add i 2) (by omega) hL ?_
    refine J_M (pc := 1484) dL_law_1484 cL_210 (fun h0 => kM G (b + 68) 80 h0 (by omega) (by omega)) rfl (Nat.le_of_ble_eq_true rfl) rfl (by omega) (Nat.le_of_ble_eq_true rfl) (fun v1 T1 hp => ?_)
    obtain ⟨e1, e2, e3⟩ := hp
    subst e1
    refine V_istore (pc := 1487) dL_law_1487 (by decide) rfl ?_
    refine V_aload_n (pc := 1489) (i := 2) dL_law_1489 rfl rfl ?_
    refine J_M (pc := 1490) dL_law_1490 cL_139 (J_thrown e2) rfl (Nat.le_of_ble_eq_true rfl) rfl (by omega) (Nat.le_of_ble_eq_true rfl) (fun v2 T2 hp => ?_)
    obtain ⟨r1, r2⟩ := hp
    subst r1; subst r2
    refine V_iload (pc := 1493) dL_law_1493 rfl ?_
    refine V_icmp_eq (pc := 1495) 1500 dL_law_1495 rfl (fun _ => ?_) (fun q => absurd rfl q)
    refine V_iload (pc := 1500) dL_law_1500 rfl ?_
    refine V_if_ne (pc := 1502) 1517 dL_law_1502 rfl (fun _ => ?_) (fun q => absurd q (by decide))
    refine V_goto (pc := 1517) 2780 dL_law_1517 rfl ?_
    exact V_bud (by omega) (by omega) (nxt _ _ _ _ _ _ e3)
theorem law_leads {i m q L : Nat} {xs : Nat → Int32} (hq : gV G 100 = q) (hs : gV G 101 = L ∧ ∀ j, nI (gV G (1000 + j)) = xs j) (hL : L ≤ 3072) (hi : i + 6 ≤ L) (hb : gB G ≤ b) (hd : 100 ≤ d) (rel : REL S T) (nxt : ∀ S' T' fo' y' l5 l6, REL S' T' → V G mL_law d m (6 * m) Q 2780 [some (.ref q), some (.ref (b + 0)), some (.ref (b + 68 + 0)), some (.ref (b + 68 + 35)), some (.int (nI i)), l5, l6] [] (jH G b S' T' fo' hS y')) : V G mL_law d (m + 1) (6 * m + 6) Q 1520 [some (.ref q), some (.ref (b + 0)), some (.ref (b + 68 + 0)), some (.ref (b + 68 + 35)), some (.int (nI i)), none, none] [] (jH G b S T fo hS y) := by
  rcases pr_leads rel (xs (i + 1)) (xs (i + 2)) with ⟨v, S1, kC, kM⟩ | ⟨kC, kM⟩
  · refine V_aload_n (pc := 1520) (i := 1) dL_law_1520 rfl rfl ?_
    refine V_aload_n (pc := 1521) (i := 0) dL_law_1521 rfl rfl ?_
    refine V_iload (pc := 1522) dL_law_1522 rfl ?_
    refine V_iconst (pc := 1524) (v := 1) dL_law_1524 (by decide) ?_
    refine V_iadd (pc := 1525) dL_law_1525 ?_
    refine J_ld (pc := 1526) (j := i + 1) dL_law_1526 hq hs (nI_add i 1) (by omega) hL ?_
    refine V_aload_n (pc := 1527) (i := 0) dL_law_1527 rfl rfl ?_
    refine V_iload (pc := 1528) dL_law_1528 rfl ?_
    refine V_iconst (pc := 1530) (v := 2) dL_law_1530 (by decide) ?_
    refine V_iadd (pc := 1531) dL_law_1531 ?_
    refine J_ld (pc := 1532) (j := i + 2) dL_law_1532 hq hs (nI_add i 2) (by omega) hL ?_
    refine V_aload_n (pc := 1533) (i := 3) dL_law_1533 rfl rfl ?_
    refine J_S (pc := 1534) dL_law_1534 cL_211 (L_leads_ok (d := 90) (fun h0 => kC G b 80 h0 hb (by omega)) hb (by omega)) rfl (Nat.le_of_ble_eq_true rfl) rfl (by omega) (Nat.le_of_ble_eq_true rfl) ?_
    refine V_istore (pc := 1537) dL_law_1537 (by decide) rfl ?_
    refine V_aload_n (pc := 1539) (i := 2) dL_law_1539 rfl rfl ?_
    refine V_aload_n (pc := 1540) (i := 0) dL_law_1540 rfl rfl ?_
    refine V_iload (pc := 1541) dL_law_1541 rfl ?_
    refine V_iconst (pc := 1543) (v := 1) dL_law_1543 (by decide) ?_
    refine V_iadd (pc := 1544) dL_law_1544 ?_
    refine J_ld (pc := 1545) (j := i + 1) dL_law_1545 hq hs (nI_add i 1) (by omega) hL ?_
    refine V_aload_n (pc := 1546) (i := 0) dL_law_1546 rfl rfl ?_
    refine V_iload (pc := 1547) dL_law_1547 rfl ?_
    refine V_iconst (pc := 1549) (v := 2) dL_law_1549 (by decide) ?_
    refine V_iadd (pc := 1550) dL_law_1550 ?_
    refine J_ld (pc := 1551) (j := i + 2) dL_law_1551 hq hs (nI_add i 2) (by omega) hL ?_
    refine J_M (pc := 1552) dL_law_1552 cL_213 (fun h0 => kM G (b + 68) 80 h0 (by omega) (by omega)) rfl (Nat.le_of_ble_eq_true rfl) rfl (by omega) (Nat.le_of_ble_eq_true rfl) (fun v1 T1 hp => ?_)
    obtain ⟨e1, e2, e3⟩ := hp
    subst e1
    refine V_istore (pc := 1555) dL_law_1555 (by decide) rfl ?_
    refine V_aload_n (pc := 1557) (i := 2) dL_law_1557 rfl rfl ?_
    refine J_M (pc := 1558) dL_law_1558 cL_139 (J_thrown e2) rfl (Nat.le_of_ble_eq_true rfl) rfl (by omega) (Nat.le_of_ble_eq_true rfl) (fun v2 T2 hp => ?_)
    obtain ⟨r1, r2⟩ := hp
    subst r1; subst r2
    refine V_iload (pc := 1561) dL_law_1561 rfl ?_
    refine V_icmp_eq (pc := 1563) 1568 dL_law_1563 rfl (fun _ => ?_) (fun q => absurd rfl q)
    refine V_iload (pc := 1568) dL_law_1568 rfl ?_
    refine V_if_ne (pc := 1570) 1592 dL_law_1570 rfl (fun q => absurd rfl q) (fun _ => ?_)
    refine V_aload_n (pc := 1573) (i := 3) dL_law_1573 rfl rfl ?_
    refine V_iconst (pc := 1574) (v := 0) dL_law_1574 (by decide) ?_
    refine J_lald (pc := 1575) dL_law_1575 updL0 ?_
    refine V_iload (pc := 1576) dL_law_1576 rfl ?_
    refine V_if_eq (pc := 1578) 1585 dL_law_1578 rfl (fun cv => ?_) (fun cv => ?_)
    · rw [if_pos cv]
      refine V_lconst (pc := 1585) (v := 0) dL_law_1585 (by decide) ?_
      refine V_lcmp (pc := 1586) dL_law_1586 ?_
      rw [cmp_0]
      refine V_if_eq (pc := 1587) 1592 dL_law_1587 rfl (fun _ => ?_) (fun q => absurd rfl q)
      refine V_goto (pc := 1592) 2780 dL_law_1592 rfl ?_
      exact V_bud (by omega) (by omega) (nxt _ _ _ _ _ _ e3)
    · rw [if_neg cv]
      refine V_lconst (pc := 1581) (v := 1) dL_law_1581 (by decide) ?_
      refine V_goto (pc := 1582) 1586 dL_law_1582 rfl ?_
      refine V_lcmp (pc := 1586) dL_law_1586 ?_
      rw [cmp_0]
      refine V_if_eq (pc := 1587) 1592 dL_law_1587 rfl (fun _ => ?_) (fun q => absurd rfl q)
      refine V_goto (pc := 1592) 2780 dL_law_1592 rfl ?_
      exact V_bud (by omega) (by omega) (nxt _ _ _ _ _ _ e3)
  · refine V_aload_n (pc := 1520) (i := 1) dL_law_1520 rfl rfl ?_
    refine V_aload_n (pc := 1521) (i := 0) dL_law_1521 rfl rfl ?_
    refine V_iload (pc := 1522) dL_law_1522 rfl ?_
    refine V_iconst (pc := 1524) (v := 1) dL_law_1524 (by decide) ?_
    refine V_iadd (pc := 1525) dL_law_1525 ?_
    refine J_ld (pc := 1526) (j := i + 1) dL_law_1526 hq hs (nI_add i 1) (by omega) hL ?_
    refine V_aload_n (pc := 1527) (i := 0) dL_law_1527 rfl rfl ?_
    refine V_iload (pc := 1528) dL_law_1528 rfl ?_
    refine V_iconst (pc := 1530) (v := 2) dL_law_1530 (by decide) ?_
    refine V_iadd (pc := 1531) dL_law_1531 ?_
    refine J_ld (pc := 1532) (j := i + 2) dL_law_1532 hq hs (nI_add i 2) (by omega) hL ?_
    refine V_aload_n (pc := 1533) (i := 3) dL_law_1533 rfl rfl ?_
    refine J_Sth (pc := 1534) (bc := m) (bs := 6 * m) dL_law_1534 cL_211 (L_leads_NSE (d := 90) (fun h0 => kC G b 80 h0 hb (by omega)) hb (by omega)) rfl (Nat.le_of_ble_eq_true rfl) rfl (by omega) (Nat.le_of_ble_eq_true rfl) (fun y1 => ?_)
    refine V_istore (pc := 1537) dL_law_1537 (by decide) rfl ?_
    refine V_aload_n (pc := 1539) (i := 2) dL_law_1539 rfl rfl ?_
    refine V_aload_n (pc := 1540) (i := 0) dL_law_1540 rfl rfl ?_
    refine V_iload (pc := 1541) dL_law_1541 rfl ?_
    refine V_iconst (pc := 1543) (v := 1) dL_law_1543 (by decide) ?_
    refine V_iadd (pc := 1544) dL_law_1544 ?_
    refine J_ld (pc := 1545) (j := i + 1) dL_law_1545 hq hs (nI_add i 1) (by omega) hL ?_
    refine V_aload_n (pc := 1546) (i := 0) dL_law_1546 rfl rfl ?_
    refine V_iload (pc := 1547) dL_law_1547 rfl ?_
    refine V_iconst (pc := 1549) (v := 2) dL_law_1549 (by decide) ?_
    refine V_iadd (pc := 1550) dL_law_1550 ?_
    refine J_ld (pc := 1551) (j := i + 2) dL_law_1551 hq hs (nI_add i 2) (by omega) hL ?_
    refine J_M (pc := 1552) dL_law_1552 cL_213 (fun h0 => kM G (b + 68) 80 h0 (by omega) (by omega)) rfl (Nat.le_of_ble_eq_true rfl) rfl (by omega) (Nat.le_of_ble_eq_true rfl) (fun v1 T1 hp => ?_)
    obtain ⟨e1, e2, e3⟩ := hp
    subst e1
    refine V_istore (pc := 1555) dL_law_1555 (by decide) rfl ?_
    refine V_aload_n (pc := 1557) (i := 2) dL_law_1557 rfl rfl ?_
    refine J_M (pc := 1558) dL_law_1558 cL_139 (J_thrown e2) rfl (Nat.le_of_ble_eq_true rfl) rfl (by omega) (Nat.le_of_ble_eq_true rfl) (fun v2 T2 hp => ?_)
    obtain ⟨r1, r2⟩ := hp
    subst r1; subst r2
    refine V_iload (pc := 1561) dL_law_1561 rfl ?_
    refine V_icmp_eq (pc := 1563) 1568 dL_law_1563 rfl (fun _ => ?_) (fun q => absurd rfl q)
    refine V_iload (pc := 1568) dL_law_1568 rfl ?_
    refine V_if_ne (pc := 1570) 1592 dL_law_1570 rfl (fun _ => ?_) (fun q => absurd q (by decide))
    refine V_goto (pc := 1592) 2780 dL_law_1592 rfl ?_
    exact V_bud (by omega) (by omega) (nxt _ _ _ _ _ _ e3)
theorem law_like {i m q L : Nat} {xs : Nat → Int32} (hq : gV G 100 = q) (hs : gV G 101 = L ∧ ∀ j, nI (gV G (1000 + j)) = xs j) (hL : L ≤ 3072) (hi : i + 6 ≤ L) (hb : gB G ≤ b) (hd : 100 ≤ d) (rel : REL S T) (nxt : ∀ S' T' fo' y' l5 l6, REL S' T' → V G mL_law d m (6 * m) Q 2780 [some (.ref q), some (.ref (b + 0)), some (.ref (b + 68 + 0)), some (.ref (b + 68 + 35)), some (.int (nI i)), l5, l6] [] (jH G b S' T' fo' hS y')) : V G mL_law d (m + 1) (6 * m + 6) Q 1595 [some (.ref q), some (.ref (b + 0)), some (.ref (b + 68 + 0)), some (.ref (b + 68 + 35)), some (.int (nI i)), none, none] [] (jH G b S T fo hS y) := by
  rcases pr_like rel (xs (i + 1)) (xs (i + 2)) with ⟨v, S1, kC, kM⟩ | ⟨kC, kM⟩
  · refine V_aload_n (pc := 1595) (i := 1) dL_law_1595 rfl rfl ?_
    refine V_aload_n (pc := 1596) (i := 0) dL_law_1596 rfl rfl ?_
    refine V_iload (pc := 1597) dL_law_1597 rfl ?_
    refine V_iconst (pc := 1599) (v := 1) dL_law_1599 (by decide) ?_
    refine V_iadd (pc := 1600) dL_law_1600 ?_
    refine J_ld (pc := 1601) (j := i + 1) dL_law_1601 hq hs (nI_add i 1) (by omega) hL ?_
    refine V_aload_n (pc := 1602) (i := 0) dL_law_1602 rfl rfl ?_
    refine V_iload (pc := 1603) dL_law_1603 rfl ?_
    refine V_iconst (pc := 1605) (v := 2) dL_law_1605 (by decide) ?_
    refine V_iadd (pc := 1606) dL_law_1606 ?_
    refine J_ld (pc := 1607) (j := i + 2) dL_law_1607 hq hs (nI_add i 2) (by omega) hL ?_
    refine V_aload_n (pc := 1608) (i := 3) dL_law_1608 rfl rfl ?_
    refine J_S (pc := 1609) dL_law_1609 cL_214 (L_like_ok (d := 90) (fun h0 => kC G b 80 h0 hb (by omega)) hb (by omega)) rfl (Nat.le_of_ble_eq_true rfl) rfl (by omega) (Nat.le_of_ble_eq_true rfl) ?_
    refine V_istore (pc := 1612) dL_law_1612 (by decide) rfl ?_
    refine V_aload_n (pc := 1614) (i := 2) dL_law_1614 rfl rfl ?_
    refine V_aload_n (pc := 1615) (i := 0) dL_law_1615 rfl rfl ?_
    refine V_iload (pc := 1616) dL_law_1616 rfl ?_
    refine V_iconst (pc := 1618) (v := 1) dL_law_1618 (by decide) ?_
    refine V_iadd (pc := 1619) dL_law_1619 ?_
    refine J_ld (pc := 1620) (j := i + 1) dL_law_1620 hq hs (nI_add i 1) (by omega) hL ?_
    refine V_aload_n (pc := 1621) (i := 0) dL_law_1621 rfl rfl ?_
    refine V_iload (pc := 1622) dL_law_1622 rfl ?_
    refine V_iconst (pc := 1624) (v := 2) dL_law_1624 (by decide) ?_
    refine V_iadd (pc := 1625) dL_law_1625 ?_
    refine J_ld (pc := 1626) (j := i + 2) dL_law_1626 hq hs (nI_add i 2) (by omega) hL ?_
    refine J_M (pc := 1627) dL_law_1627 cL_216 (fun h0 => kM G (b + 68) 80 h0 (by omega) (by omega)) rfl (Nat.le_of_ble_eq_true rfl) rfl (by omega) (Nat.le_of_ble_eq_true rfl) (fun v1 T1 hp => ?_)
    obtain ⟨e1, e2, e3⟩ := hp
    subst e1
    refine V_istore (pc := 1630) dL_law_1630 (by decide) rfl ?_
    refine V_aload_n (pc := 1632) (i := 2) dL_law_1632 rfl rfl ?_
    refine J_M (pc := 1633) dL_law_1633 cL_139 (J_thrown e2) rfl (Nat.le_of_ble_eq_true rfl) rfl (by omega) (Nat.le_of_ble_eq_true rfl) (fun v2 T2 hp => ?_)
    obtain ⟨r1, r2⟩ := hp
    subst r1; subst r2
    refine V_iload (pc := 1636) dL_law_1636 rfl ?_
    refine V_icmp_eq (pc := 1638) 1643 dL_law_1638 rfl (fun _ => ?_) (fun q => absurd rfl q)
    refine V_iload (pc := 1643) dL_law_1643 rfl ?_
    refine V_if_ne (pc := 1645) 1660 dL_law_1645 rfl (fun q => absurd rfl q) (fun _ => ?_)
    refine V_aload_n (pc := 1648) (i := 3) dL_law_1648 rfl rfl ?_
    refine V_iconst (pc := 1649) (v := 0) dL_law_1649 (by decide) ?_
    refine J_lald (pc := 1650) dL_law_1650 updL0 ?_
    refine V_iload (pc := 1651) dL_law_1651 rfl ?_
    refine V_i2l (pc := 1653) dL_law_1653 rfl ?_
    refine V_lcmp (pc := 1654) dL_law_1654 ?_
    rw [cmp_0]
    refine V_if_eq (pc := 1655) 1660 dL_law_1655 rfl (fun _ => ?_) (fun q => absurd rfl q)
    refine V_goto (pc := 1660) 2780 dL_law_1660 rfl ?_
    exact V_bud (by omega) (by omega) (nxt _ _ _ _ _ _ e3)
  · refine V_aload_n (pc := 1595) (i := 1) dL_law_1595 rfl rfl ?_
    refine V_aload_n (pc := 1596) (i := 0) dL_law_1596 rfl rfl ?_
    refine V_iload (pc := 1597) dL_law_1597 rfl ?_
    refine V_iconst (pc := 1599) (v := 1) dL_law_1599 (by decide) ?_
    refine V_iadd (pc := 1600) dL_law_1600 ?_
    refine J_ld (pc := 1601) (j := i + 1) dL_law_1601 hq hs (nI_add i 1) (by omega) hL ?_
    refine V_aload_n (pc := 1602) (i := 0) dL_law_1602 rfl rfl ?_
    refine V_iload (pc := 1603) dL_law_1603 rfl ?_
    refine V_iconst (pc := 1605) (v := 2) dL_law_1605 (by decide) ?_
    refine V_iadd (pc := 1606) dL_law_1606 ?_
    refine J_ld (pc := 1607) (j := i + 2) dL_law_1607 hq hs (nI_add i 2) (by omega) hL ?_
    refine V_aload_n (pc := 1608) (i := 3) dL_law_1608 rfl rfl ?_
    refine J_Sth (pc := 1609) (bc := m) (bs := 6 * m) dL_law_1609 cL_214 (L_like_NSE (d := 90) (fun h0 => kC G b 80 h0 hb (by omega)) hb (by omega)) rfl (Nat.le_of_ble_eq_true rfl) rfl (by omega) (Nat.le_of_ble_eq_true rfl) (fun y1 => ?_)
    refine V_istore (pc := 1612) dL_law_1612 (by decide) rfl ?_
    refine V_aload_n (pc := 1614) (i := 2) dL_law_1614 rfl rfl ?_
    refine V_aload_n (pc := 1615) (i := 0) dL_law_1615 rfl rfl ?_
    refine V_iload (pc := 1616) dL_law_1616 rfl ?_
    refine V_iconst (pc := 1618) (v := 1) dL_law_1618 (by decide) ?_
    refine V_iadd (pc := 1619) dL_law_1619 ?_
    refine J_ld (pc := 1620) (j := i + 1) dL_law_1620 hq hs (nI_add i 1) (by omega) hL ?_
    refine V_aload_n (pc := 1621) (i := 0) dL_law_1621 rfl rfl ?_
    refine V_iload (pc := 1622) dL_law_1622 rfl ?_
    refine V_iconst (pc := 1624) (v := 2) dL_law_1624 (by decide) ?_
    refine V_iadd (pc := 1625) dL_law_1625 ?_
    refine J_ld (pc := 1626) (j := i + 2) dL_law_1626 hq hs (nI_add i 2) (by omega) hL ?_
    refine J_M (pc := 1627) dL_law_1627 cL_216 (fun h0 => kM G (b + 68) 80 h0 (by omega) (by omega)) rfl (Nat.le_of_ble_eq_true rfl) rfl (by omega) (Nat.le_of_ble_eq_true rfl) (fun v1 T1 hp => ?_)
    obtain ⟨e1, e2, e3⟩ := hp
    subst e1
    refine V_istore (pc := 1630) dL_law_1630 (by decide) rfl ?_
    refine V_aload_n (pc := 1632) (i := 2) dL_law_1632 rfl rfl ?_
    refine J_M (pc := 1633) dL_law_1633 cL_139 (J_thrown e2) rfl (Nat.le_of_ble_eq_true rfl) rfl (by omega) (Nat.le_of_ble_eq_true rfl) (fun v2 T2 hp => ?_)
    obtain ⟨r1, r2⟩ := hp
    subst r1; subst r2
    refine V_iload (pc := 1636) dL_law_1636 rfl ?_
    refine V_icmp_eq (pc := 1638) 1643 dL_law_1638 rfl (fun _ => ?_) (fun q => absurd rfl q)
    refine V_iload (pc := 1643) dL_law_1643 rfl ?_
    refine V_if_ne (pc := 1645) 1660 dL_law_1645 rfl (fun _ => ?_) (fun q => absurd q (by decide))
    refine V_goto (pc := 1660) 2780 dL_law_1660 rfl ?_
    exact V_bud (by omega) (by omega) (nxt _ _ _ _ _ _ e3)
theorem law_toSend {i m q L : Nat} {xs : Nat → Int32} (hq : gV G 100 = q) (hs : gV G 101 = L ∧ ∀ j, nI (gV G (1000 + j)) = xs j) (hL : L ≤ 3072) (hi : i + 6 ≤ L) (hb : gB G ≤ b) (hd : 100 ≤ d) (rel : REL S T) (nxt : ∀ S' T' fo' y' l5 l6, REL S' T' → V G mL_law d m (6 * m) Q 2780 [some (.ref q), some (.ref (b + 0)), some (.ref (b + 68 + 0)), some (.ref (b + 68 + 35)), some (.int (nI i)), l5, l6] [] (jH G b S' T' fo' hS y')) : V G mL_law d (m + 1) (6 * m + 6) Q 1663 [some (.ref q), some (.ref (b + 0)), some (.ref (b + 68 + 0)), some (.ref (b + 68 + 35)), some (.int (nI i)), none, none] [] (jH G b S T fo hS y) := by
  rcases pr_toSend rel (xs (i + 1)) with ⟨v, S1, kC, kM⟩ | ⟨kC, kM⟩
  · refine V_aload_n (pc := 1663) (i := 1) dL_law_1663 rfl rfl ?_
    refine V_aload_n (pc := 1664) (i := 0) dL_law_1664 rfl rfl ?_
    refine V_iload (pc := 1665) dL_law_1665 rfl ?_
    refine V_iconst (pc := 1667) (v := 1) dL_law_1667 (by decide) ?_
    refine V_iadd (pc := 1668) dL_law_1668 ?_
    refine J_ld (pc := 1669) (j := i + 1) dL_law_1669 hq hs (nI_add i 1) (by omega) hL ?_
    refine V_aload_n (pc := 1670) (i := 3) dL_law_1670 rfl rfl ?_
    refine J_S (pc := 1671) dL_law_1671 cL_217 (L_toSend_ok (d := 90) (fun h0 => kC G b 80 h0 hb (by omega)) hb (by omega)) rfl (Nat.le_of_ble_eq_true rfl) rfl (by omega) (Nat.le_of_ble_eq_true rfl) ?_
    refine V_istore (pc := 1674) dL_law_1674 (by decide) rfl ?_
    refine V_aload_n (pc := 1676) (i := 2) dL_law_1676 rfl rfl ?_
    refine V_aload_n (pc := 1677) (i := 0) dL_law_1677 rfl rfl ?_
    refine V_iload (pc := 1678) dL_law_1678 rfl ?_
    refine V_iconst (pc := 1680) (v := 1) dL_law_1680 (by decide) ?_
    refine V_iadd (pc := 1681) dL_law_1681 ?_
    refine J_ld (pc := 1682) (j := i + 1) dL_law_1682 hq hs (nI_add i 1) (by omega) hL ?_
    refine J_M (pc := 1683) dL_law_1683 cL_219 (fun h0 => kM G (b + 68) 80 h0 (by omega) (by omega)) rfl (Nat.le_of_ble_eq_true rfl) rfl (by omega) (Nat.le_of_ble_eq_true rfl) (fun v1 T1 hp => ?_)
    obtain ⟨e1, e2, e3⟩ := hp
    subst e1
    refine V_istore (pc := 1686) dL_law_1686 (by decide) rfl ?_
    refine V_aload_n (pc := 1688) (i := 2) dL_law_1688 rfl rfl ?_
    refine J_M (pc := 1689) dL_law_1689 cL_139 (J_thrown e2) rfl (Nat.le_of_ble_eq_true rfl) rfl (by omega) (Nat.le_of_ble_eq_true rfl) (fun v2 T2 hp => ?_)
    obtain ⟨r1, r2⟩ := hp
    subst r1; subst r2
    refine V_iload (pc := 1692) dL_law_1692 rfl ?_
    refine V_icmp_eq (pc := 1694) 1699 dL_law_1694 rfl (fun _ => ?_) (fun q => absurd rfl q)
    refine V_iload (pc := 1699) dL_law_1699 rfl ?_
    refine V_if_ne (pc := 1701) 1716 dL_law_1701 rfl (fun q => absurd rfl q) (fun _ => ?_)
    refine V_aload_n (pc := 1704) (i := 3) dL_law_1704 rfl rfl ?_
    refine V_iconst (pc := 1705) (v := 0) dL_law_1705 (by decide) ?_
    refine J_lald (pc := 1706) dL_law_1706 updL0 ?_
    refine V_iload (pc := 1707) dL_law_1707 rfl ?_
    refine V_i2l (pc := 1709) dL_law_1709 rfl ?_
    refine V_lcmp (pc := 1710) dL_law_1710 ?_
    rw [cmp_0]
    refine V_if_eq (pc := 1711) 1716 dL_law_1711 rfl (fun _ => ?_) (fun q => absurd rfl q)
    refine V_goto (pc := 1716) 2780 dL_law_1716 rfl ?_
    exact V_bud (by omega) (by omega) (nxt _ _ _ _ _ _ e3)
  · refine V_aload_n (pc := 1663) (i := 1) dL_law_1663 rfl rfl ?_
    refine V_aload_n (pc := 1664) (i := 0) dL_law_1664 rfl rfl ?_
    refine V_iload (pc := 1665) dL_law_1665 rfl ?_
    refine V_iconst (pc := 1667) (v := 1) dL_law_1667 (by decide) ?_
    refine V_iadd (pc := 1668) dL_law_1668 ?_
    refine J_ld (pc := 1669) (j := i + 1) dL_law_1669 hq hs (nI_add i 1) (by omega) hL ?_
    refine V_aload_n (pc := 1670) (i := 3) dL_law_1670 rfl rfl ?_
    refine J_Sth (pc := 1671) (bc := m) (bs := 6 * m) dL_law_1671 cL_217 (L_toSend_IAE (d := 90) (fun h0 => kC G b 80 h0 hb (by omega)) hb (by omega)) rfl (Nat.le_of_ble_eq_true rfl) rfl (by omega) (Nat.le_of_ble_eq_true rfl) (fun y1 => ?_)
    refine V_istore (pc := 1674) dL_law_1674 (by decide) rfl ?_
    refine V_aload_n (pc := 1676) (i := 2) dL_law_1676 rfl rfl ?_
    refine V_aload_n (pc := 1677) (i := 0) dL_law_1677 rfl rfl ?_
    refine V_iload (pc := 1678) dL_law_1678 rfl ?_
    refine V_iconst (pc := 1680) (v := 1) dL_law_1680 (by decide) ?_
    refine V_iadd (pc := 1681) dL_law_1681 ?_
    refine J_ld (pc := 1682) (j := i + 1) dL_law_1682 hq hs (nI_add i 1) (by omega) hL ?_
    refine J_M (pc := 1683) dL_law_1683 cL_219 (fun h0 => kM G (b + 68) 80 h0 (by omega) (by omega)) rfl (Nat.le_of_ble_eq_true rfl) rfl (by omega) (Nat.le_of_ble_eq_true rfl) (fun v1 T1 hp => ?_)
    obtain ⟨e1, e2, e3⟩ := hp
    subst e1
    refine V_istore (pc := 1686) dL_law_1686 (by decide) rfl ?_
    refine V_aload_n (pc := 1688) (i := 2) dL_law_1688 rfl rfl ?_
    refine J_M (pc := 1689) dL_law_1689 cL_139 (J_thrown e2) rfl (Nat.le_of_ble_eq_true rfl) rfl (by omega) (Nat.le_of_ble_eq_true rfl) (fun v2 T2 hp => ?_)
    obtain ⟨r1, r2⟩ := hp
    subst r1; subst r2
    refine V_iload (pc := 1692) dL_law_1692 rfl ?_
    refine V_icmp_eq (pc := 1694) 1699 dL_law_1694 rfl (fun _ => ?_) (fun q => absurd rfl q)
    refine V_iload (pc := 1699) dL_law_1699 rfl ?_
    refine V_if_ne (pc := 1701) 1716 dL_law_1701 rfl (fun _ => ?_) (fun q => absurd q (by decide))
    refine V_goto (pc := 1716) 2780 dL_law_1716 rfl ?_
    exact V_bud (by omega) (by omega) (nxt _ _ _ _ _ _ e3)
theorem law_happiest {i m q L : Nat} {xs : Nat → Int32} (hq : gV G 100 = q) (hs : gV G 101 = L ∧ ∀ j, nI (gV G (1000 + j)) = xs j) (hL : L ≤ 3072) (hi : i + 6 ≤ L) (hb : gB G ≤ b) (hd : 100 ≤ d) (rel : REL S T) (nxt : ∀ S' T' fo' y' l5 l6, REL S' T' → V G mL_law d m (6 * m) Q 2780 [some (.ref q), some (.ref (b + 0)), some (.ref (b + 68 + 0)), some (.ref (b + 68 + 35)), some (.int (nI i)), l5, l6] [] (jH G b S' T' fo' hS y')) : V G mL_law d (m + 1) (6 * m + 6) Q 1719 [some (.ref q), some (.ref (b + 0)), some (.ref (b + 68 + 0)), some (.ref (b + 68 + 35)), some (.int (nI i)), none, none] [] (jH G b S T fo hS y) := by
  rcases pr_happiest rel (xs (i + 1)) with ⟨v, S1, kC, kM⟩ | ⟨kC, kM⟩
  · refine V_aload_n (pc := 1719) (i := 1) dL_law_1719 rfl rfl ?_
    refine V_aload_n (pc := 1720) (i := 0) dL_law_1720 rfl rfl ?_
    refine V_iload (pc := 1721) dL_law_1721 rfl ?_
    refine V_iconst (pc := 1723) (v := 1) dL_law_1723 (by decide) ?_
    refine V_iadd (pc := 1724) dL_law_1724 ?_
    refine J_ld (pc := 1725) (j := i + 1) dL_law_1725 hq hs (nI_add i 1) (by omega) hL ?_
    refine V_aload_n (pc := 1726) (i := 3) dL_law_1726 rfl rfl ?_
    refine J_S (pc := 1727) dL_law_1727 cL_220 (L_happiest_ok (d := 90) (fun h0 => kC G b 80 h0 hb (by omega)) hb (by omega)) rfl (Nat.le_of_ble_eq_true rfl) rfl (by omega) (Nat.le_of_ble_eq_true rfl) ?_
    refine V_istore (pc := 1730) dL_law_1730 (by decide) rfl ?_
    refine V_aload_n (pc := 1732) (i := 2) dL_law_1732 rfl rfl ?_
    refine V_aload_n (pc := 1733) (i := 0) dL_law_1733 rfl rfl ?_
    refine V_iload (pc := 1734) dL_law_1734 rfl ?_
    refine V_iconst (pc := 1736) (v := 1) dL_law_1736 (by decide) ?_
    refine V_iadd (pc := 1737) dL_law_1737 ?_
    refine J_ld (pc := 1738) (j := i + 1) dL_law_1738 hq hs (nI_add i 1) (by omega) hL ?_
    refine J_M (pc := 1739) dL_law_1739 cL_222 (fun h0 => kM G (b + 68) 80 h0 (by omega) (by omega)) rfl (Nat.le_of_ble_eq_true rfl) rfl (by omega) (Nat.le_of_ble_eq_true rfl) (fun v1 T1 hp => ?_)
    obtain ⟨e1, e2, e3⟩ := hp
    subst e1
    refine V_istore (pc := 1742) dL_law_1742 (by decide) rfl ?_
    refine V_aload_n (pc := 1744) (i := 2) dL_law_1744 rfl rfl ?_
    refine J_M (pc := 1745) dL_law_1745 cL_139 (J_thrown e2) rfl (Nat.le_of_ble_eq_true rfl) rfl (by omega) (Nat.le_of_ble_eq_true rfl) (fun v2 T2 hp => ?_)
    obtain ⟨r1, r2⟩ := hp
    subst r1; subst r2
    refine V_iload (pc := 1748) dL_law_1748 rfl ?_
    refine V_icmp_eq (pc := 1750) 1755 dL_law_1750 rfl (fun _ => ?_) (fun q => absurd rfl q)
    refine V_iload (pc := 1755) dL_law_1755 rfl ?_
    refine V_if_ne (pc := 1757) 1772 dL_law_1757 rfl (fun q => absurd rfl q) (fun _ => ?_)
    refine V_aload_n (pc := 1760) (i := 3) dL_law_1760 rfl rfl ?_
    refine V_iconst (pc := 1761) (v := 0) dL_law_1761 (by decide) ?_
    refine J_lald (pc := 1762) dL_law_1762 updL0 ?_
    refine V_iload (pc := 1763) dL_law_1763 rfl ?_
    refine V_i2l (pc := 1765) dL_law_1765 rfl ?_
    refine V_lcmp (pc := 1766) dL_law_1766 ?_
    rw [cmp_0]
    refine V_if_eq (pc := 1767) 1772 dL_law_1767 rfl (fun _ => ?_) (fun q => absurd rfl q)
    refine V_goto (pc := 1772) 2780 dL_law_1772 rfl ?_
    exact V_bud (by omega) (by omega) (nxt _ _ _ _ _ _ e3)
  · refine V_aload_n (pc := 1719) (i := 1) dL_law_1719 rfl rfl ?_
    refine V_aload_n (pc := 1720) (i := 0) dL_law_1720 rfl rfl ?_
    refine V_iload (pc := 1721) dL_law_1721 rfl ?_
    refine V_iconst (pc := 1723) (v := 1) dL_law_1723 (by decide) ?_
    refine V_iadd (pc := 1724) dL_law_1724 ?_
    refine J_ld (pc := 1725) (j := i + 1) dL_law_1725 hq hs (nI_add i 1) (by omega) hL ?_
    refine V_aload_n (pc := 1726) (i := 3) dL_law_1726 rfl rfl ?_
    refine J_Sth (pc := 1727) (bc := m) (bs := 6 * m) dL_law_1727 cL_220 (L_happiest_NSE (d := 90) (fun h0 => kC G b 80 h0 hb (by omega)) hb (by omega)) rfl (Nat.le_of_ble_eq_true rfl) rfl (by omega) (Nat.le_of_ble_eq_true rfl) (fun y1 => ?_)
    refine V_istore (pc := 1730) dL_law_1730 (by decide) rfl ?_
    refine V_aload_n (pc := 1732) (i := 2) dL_law_1732 rfl rfl ?_
    refine V_aload_n (pc := 1733) (i := 0) dL_law_1733 rfl rfl ?_
    refine V_iload (pc := 1734) dL_law_1734 rfl ?_
    refine V_iconst (pc := 1736) (v := 1) dL_law_1736 (by decide) ?_
    refine V_iadd (pc := 1737) dL_law_1737 ?_
    refine J_ld (pc := 1738) (j := i + 1) dL_law_1738 hq hs (nI_add i 1) (by omega) hL ?_
    refine J_M (pc := 1739) dL_law_1739 cL_222 (fun h0 => kM G (b + 68) 80 h0 (by omega) (by omega)) rfl (Nat.le_of_ble_eq_true rfl) rfl (by omega) (Nat.le_of_ble_eq_true rfl) (fun v1 T1 hp => ?_)
    obtain ⟨e1, e2, e3⟩ := hp
    subst e1
    refine V_istore (pc := 1742) dL_law_1742 (by decide) rfl ?_
    refine V_aload_n (pc := 1744) (i := 2) dL_law_1744 rfl rfl ?_
    refine J_M (pc := 1745) dL_law_1745 cL_139 (J_thrown e2) rfl (Nat.le_of_ble_eq_true rfl) rfl (by omega) (Nat.le_of_ble_eq_true rfl) (fun v2 T2 hp => ?_)
    obtain ⟨r1, r2⟩ := hp
    subst r1; subst r2
    refine V_iload (pc := 1748) dL_law_1748 rfl ?_
    refine V_icmp_eq (pc := 1750) 1755 dL_law_1750 rfl (fun _ => ?_) (fun q => absurd rfl q)
    refine V_iload (pc := 1755) dL_law_1755 rfl ?_
    refine V_if_ne (pc := 1757) 1772 dL_law_1757 rfl (fun _ => ?_) (fun q => absurd q (by decide))
    refine V_goto (pc := 1772) 2780 dL_law_1772 rfl ?_
    exact V_bud (by omega) (by omega) (nxt _ _ _ _ _ _ e3)
theorem law_critical {i m q L : Nat} {xs : Nat → Int32} (hq : gV G 100 = q) (hs : gV G 101 = L ∧ ∀ j, nI (gV G (1000 + j)) = xs j) (hL : L ≤ 3072) (hi : i + 6 ≤ L) (hb : gB G ≤ b) (hd : 100 ≤ d) (rel : REL S T) (nxt : ∀ S' T' fo' y' l5 l6, REL S' T' → V G mL_law d m (6 * m) Q 2780 [some (.ref q), some (.ref (b + 0)), some (.ref (b + 68 + 0)), some (.ref (b + 68 + 35)), some (.int (nI i)), l5, l6] [] (jH G b S' T' fo' hS y')) : V G mL_law d (m + 1) (6 * m + 6) Q 1775 [some (.ref q), some (.ref (b + 0)), some (.ref (b + 68 + 0)), some (.ref (b + 68 + 35)), some (.int (nI i)), none, none] [] (jH G b S T fo hS y) := by
  rcases pr_critical rel (xs (i + 1)) with ⟨v, S1, kC, kM⟩ | ⟨kC, kM⟩
  · refine V_aload_n (pc := 1775) (i := 1) dL_law_1775 rfl rfl ?_
    refine V_aload_n (pc := 1776) (i := 0) dL_law_1776 rfl rfl ?_
    refine V_iload (pc := 1777) dL_law_1777 rfl ?_
    refine V_iconst (pc := 1779) (v := 1) dL_law_1779 (by decide) ?_
    refine V_iadd (pc := 1780) dL_law_1780 ?_
    refine J_ld (pc := 1781) (j := i + 1) dL_law_1781 hq hs (nI_add i 1) (by omega) hL ?_
    refine V_aload_n (pc := 1782) (i := 3) dL_law_1782 rfl rfl ?_
    refine J_S (pc := 1783) dL_law_1783 cL_223 (L_critical_ok (d := 90) (fun h0 => kC G b 80 h0 hb (by omega)) hb (by omega)) rfl (Nat.le_of_ble_eq_true rfl) rfl (by omega) (Nat.le_of_ble_eq_true rfl) ?_
    refine V_istore (pc := 1786) dL_law_1786 (by decide) rfl ?_
    refine V_aload_n (pc := 1788) (i := 2) dL_law_1788 rfl rfl ?_
    refine V_aload_n (pc := 1789) (i := 0) dL_law_1789 rfl rfl ?_
    refine V_iload (pc := 1790) dL_law_1790 rfl ?_
    refine V_iconst (pc := 1792) (v := 1) dL_law_1792 (by decide) ?_
    refine V_iadd (pc := 1793) dL_law_1793 ?_
    refine J_ld (pc := 1794) (j := i + 1) dL_law_1794 hq hs (nI_add i 1) (by omega) hL ?_
    refine J_M (pc := 1795) dL_law_1795 cL_225 (fun h0 => kM G (b + 68) 80 h0 (by omega) (by omega)) rfl (Nat.le_of_ble_eq_true rfl) rfl (by omega) (Nat.le_of_ble_eq_true rfl) (fun v1 T1 hp => ?_)
    obtain ⟨e1, e2, e3⟩ := hp
    subst e1
    refine V_istore (pc := 1798) dL_law_1798 (by decide) rfl ?_
    refine V_aload_n (pc := 1800) (i := 2) dL_law_1800 rfl rfl ?_
    refine J_M (pc := 1801) dL_law_1801 cL_139 (J_thrown e2) rfl (Nat.le_of_ble_eq_true rfl) rfl (by omega) (Nat.le_of_ble_eq_true rfl) (fun v2 T2 hp => ?_)
    obtain ⟨r1, r2⟩ := hp
    subst r1; subst r2
    refine V_iload (pc := 1804) dL_law_1804 rfl ?_
    refine V_icmp_eq (pc := 1806) 1811 dL_law_1806 rfl (fun _ => ?_) (fun q => absurd rfl q)
    refine V_iload (pc := 1811) dL_law_1811 rfl ?_
    refine V_if_ne (pc := 1813) 1828 dL_law_1813 rfl (fun q => absurd rfl q) (fun _ => ?_)
    refine V_aload_n (pc := 1816) (i := 3) dL_law_1816 rfl rfl ?_
    refine V_iconst (pc := 1817) (v := 0) dL_law_1817 (by decide) ?_
    refine J_lald (pc := 1818) dL_law_1818 updL0 ?_
    refine V_iload (pc := 1819) dL_law_1819 rfl ?_
    refine V_i2l (pc := 1821) dL_law_1821 rfl ?_
    refine V_lcmp (pc := 1822) dL_law_1822 ?_
    rw [cmp_0]
    refine V_if_eq (pc := 1823) 1828 dL_law_1823 rfl (fun _ => ?_) (fun q => absurd rfl q)
    refine V_goto (pc := 1828) 2780 dL_law_1828 rfl ?_
    exact V_bud (by omega) (by omega) (nxt _ _ _ _ _ _ e3)
  · refine V_aload_n (pc := 1775) (i := 1) dL_law_1775 rfl rfl ?_
    refine V_aload_n (pc := 1776) (i := 0) dL_law_1776 rfl rfl ?_
    refine V_iload (pc := 1777) dL_law_1777 rfl ?_
    refine V_iconst (pc := 1779) (v := 1) dL_law_1779 (by decide) ?_
    refine V_iadd (pc := 1780) dL_law_1780 ?_
    refine J_ld (pc := 1781) (j := i + 1) dL_law_1781 hq hs (nI_add i 1) (by omega) hL ?_
    refine V_aload_n (pc := 1782) (i := 3) dL_law_1782 rfl rfl ?_
    refine J_Sth (pc := 1783) (bc := m) (bs := 6 * m) dL_law_1783 cL_223 (L_critical_NSE (d := 90) (fun h0 => kC G b 80 h0 hb (by omega)) hb (by omega)) rfl (Nat.le_of_ble_eq_true rfl) rfl (by omega) (Nat.le_of_ble_eq_true rfl) (fun y1 => ?_)
    refine V_istore (pc := 1786) dL_law_1786 (by decide) rfl ?_
    refine V_aload_n (pc := 1788) (i := 2) dL_law_1788 rfl rfl ?_
    refine V_aload_n (pc := 1789) (i := 0) dL_law_1789 rfl rfl ?_
    refine V_iload (pc := 1790) dL_law_1790 rfl ?_
    refine V_iconst (pc := 1792) (v := 1) dL_law_1792 (by decide) ?_
    refine V_iadd (pc := 1793) dL_law_1793 ?_
    refine J_ld (pc := 1794) (j := i + 1) dL_law_1794 hq hs (nI_add i 1) (by omega) hL ?_
    refine J_M (pc := 1795) dL_law_1795 cL_225 (fun h0 => kM G (b + 68) 80 h0 (by omega) (by omega)) rfl (Nat.le_of_ble_eq_true rfl) rfl (by omega) (Nat.le_of_ble_eq_true rfl) (fun v1 T1 hp => ?_)
    obtain ⟨e1, e2, e3⟩ := hp
    subst e1
    refine V_istore (pc := 1798) dL_law_1798 (by decide) rfl ?_
    refine V_aload_n (pc := 1800) (i := 2) dL_law_1800 rfl rfl ?_
    refine J_M (pc := 1801) dL_law_1801 cL_139 (J_thrown e2) rfl (Nat.le_of_ble_eq_true rfl) rfl (by omega) (Nat.le_of_ble_eq_true rfl) (fun v2 T2 hp => ?_)
    obtain ⟨r1, r2⟩ := hp
    subst r1; subst r2
    refine V_iload (pc := 1804) dL_law_1804 rfl ?_
    refine V_icmp_eq (pc := 1806) 1811 dL_law_1806 rfl (fun _ => ?_) (fun q => absurd rfl q)
    refine V_iload (pc := 1811) dL_law_1811 rfl ?_
    refine V_if_ne (pc := 1813) 1828 dL_law_1813 rfl (fun _ => ?_) (fun q => absurd q (by decide))
    refine V_goto (pc := 1828) 2780 dL_law_1828 rfl ?_
    exact V_bud (by omega) (by omega) (nxt _ _ _ _ _ _ e3)
theorem law_bestMissed {i m q L : Nat} {xs : Nat → Int32} (hq : gV G 100 = q) (hs : gV G 101 = L ∧ ∀ j, nI (gV G (1000 + j)) = xs j) (hL : L ≤ 3072) (hi : i + 6 ≤ L) (hb : gB G ≤ b) (hd : 100 ≤ d) (rel : REL S T) (nxt : ∀ S' T' fo' y' l5 l6, REL S' T' → V G mL_law d m (6 * m) Q 2780 [some (.ref q), some (.ref (b + 0)), some (.ref (b + 68 + 0)), some (.ref (b + 68 + 35)), some (.int (nI i)), l5, l6] [] (jH G b S' T' fo' hS y')) : V G mL_law d (m + 1) (6 * m + 6) Q 1831 [some (.ref q), some (.ref (b + 0)), some (.ref (b + 68 + 0)), some (.ref (b + 68 + 35)), some (.int (nI i)), none, none] [] (jH G b S T fo hS y) := by
  rcases pr_bestMissed rel (xs (i + 1)) with ⟨v, S1, kC, kM⟩ | ⟨kC, kM⟩
  · refine V_aload_n (pc := 1831) (i := 1) dL_law_1831 rfl rfl ?_
    refine V_aload_n (pc := 1832) (i := 0) dL_law_1832 rfl rfl ?_
    refine V_iload (pc := 1833) dL_law_1833 rfl ?_
    refine V_iconst (pc := 1835) (v := 1) dL_law_1835 (by decide) ?_
    refine V_iadd (pc := 1836) dL_law_1836 ?_
    refine J_ld (pc := 1837) (j := i + 1) dL_law_1837 hq hs (nI_add i 1) (by omega) hL ?_
    refine V_aload_n (pc := 1838) (i := 3) dL_law_1838 rfl rfl ?_
    refine J_S (pc := 1839) dL_law_1839 cL_226 (L_bestMissed_ok (d := 90) (fun h0 => kC G b 80 h0 hb (by omega)) hb (by omega)) rfl (Nat.le_of_ble_eq_true rfl) rfl (by omega) (Nat.le_of_ble_eq_true rfl) ?_
    refine V_istore (pc := 1842) dL_law_1842 (by decide) rfl ?_
    refine V_aload_n (pc := 1844) (i := 2) dL_law_1844 rfl rfl ?_
    refine V_aload_n (pc := 1845) (i := 0) dL_law_1845 rfl rfl ?_
    refine V_iload (pc := 1846) dL_law_1846 rfl ?_
    refine V_iconst (pc := 1848) (v := 1) dL_law_1848 (by decide) ?_
    refine V_iadd (pc := 1849) dL_law_1849 ?_
    refine J_ld (pc := 1850) (j := i + 1) dL_law_1850 hq hs (nI_add i 1) (by omega) hL ?_
    refine J_M (pc := 1851) dL_law_1851 cL_228 (fun h0 => kM G (b + 68) 80 h0 (by omega) (by omega)) rfl (Nat.le_of_ble_eq_true rfl) rfl (by omega) (Nat.le_of_ble_eq_true rfl) (fun v1 T1 hp => ?_)
    obtain ⟨e1, e2, e3⟩ := hp
    subst e1
    refine V_istore (pc := 1854) dL_law_1854 (by decide) rfl ?_
    refine V_aload_n (pc := 1856) (i := 2) dL_law_1856 rfl rfl ?_
    refine J_M (pc := 1857) dL_law_1857 cL_139 (J_thrown e2) rfl (Nat.le_of_ble_eq_true rfl) rfl (by omega) (Nat.le_of_ble_eq_true rfl) (fun v2 T2 hp => ?_)
    obtain ⟨r1, r2⟩ := hp
    subst r1; subst r2
    refine V_iload (pc := 1860) dL_law_1860 rfl ?_
    refine V_icmp_eq (pc := 1862) 1867 dL_law_1862 rfl (fun _ => ?_) (fun q => absurd rfl q)
    refine V_iload (pc := 1867) dL_law_1867 rfl ?_
    refine V_if_ne (pc := 1869) 1884 dL_law_1869 rfl (fun q => absurd rfl q) (fun _ => ?_)
    refine V_aload_n (pc := 1872) (i := 3) dL_law_1872 rfl rfl ?_
    refine V_iconst (pc := 1873) (v := 0) dL_law_1873 (by decide) ?_
    refine J_lald (pc := 1874) dL_law_1874 updL0 ?_
    refine V_iload (pc := 1875) dL_law_1875 rfl ?_
    refine V_i2l (pc := 1877) dL_law_1877 rfl ?_
    refine V_lcmp (pc := 1878) dL_law_1878 ?_
    rw [cmp_0]
    refine V_if_eq (pc := 1879) 1884 dL_law_1879 rfl (fun _ => ?_) (fun q => absurd rfl q)
    refine V_goto (pc := 1884) 2780 dL_law_1884 rfl ?_
    exact V_bud (by omega) (by omega) (nxt _ _ _ _ _ _ e3)
  · refine V_aload_n (pc := 1831) (i := 1) dL_law_1831 rfl rfl ?_
    refine V_aload_n (pc := 1832) (i := 0) dL_law_1832 rfl rfl ?_
    refine V_iload (pc := 1833) dL_law_1833 rfl ?_
    refine V_iconst (pc := 1835) (v := 1) dL_law_1835 (by decide) ?_
    refine V_iadd (pc := 1836) dL_law_1836 ?_
    refine J_ld (pc := 1837) (j := i + 1) dL_law_1837 hq hs (nI_add i 1) (by omega) hL ?_
    refine V_aload_n (pc := 1838) (i := 3) dL_law_1838 rfl rfl ?_
    refine J_Sth (pc := 1839) (bc := m) (bs := 6 * m) dL_law_1839 cL_226 (L_bestMissed_NSE (d := 90) (fun h0 => kC G b 80 h0 hb (by omega)) hb (by omega)) rfl (Nat.le_of_ble_eq_true rfl) rfl (by omega) (Nat.le_of_ble_eq_true rfl) (fun y1 => ?_)
    refine V_istore (pc := 1842) dL_law_1842 (by decide) rfl ?_
    refine V_aload_n (pc := 1844) (i := 2) dL_law_1844 rfl rfl ?_
    refine V_aload_n (pc := 1845) (i := 0) dL_law_1845 rfl rfl ?_
    refine V_iload (pc := 1846) dL_law_1846 rfl ?_
    refine V_iconst (pc := 1848) (v := 1) dL_law_1848 (by decide) ?_
    refine V_iadd (pc := 1849) dL_law_1849 ?_
    refine J_ld (pc := 1850) (j := i + 1) dL_law_1850 hq hs (nI_add i 1) (by omega) hL ?_
    refine J_M (pc := 1851) dL_law_1851 cL_228 (fun h0 => kM G (b + 68) 80 h0 (by omega) (by omega)) rfl (Nat.le_of_ble_eq_true rfl) rfl (by omega) (Nat.le_of_ble_eq_true rfl) (fun v1 T1 hp => ?_)
    obtain ⟨e1, e2, e3⟩ := hp
    subst e1
    refine V_istore (pc := 1854) dL_law_1854 (by decide) rfl ?_
    refine V_aload_n (pc := 1856) (i := 2) dL_law_1856 rfl rfl ?_
    refine J_M (pc := 1857) dL_law_1857 cL_139 (J_thrown e2) rfl (Nat.le_of_ble_eq_true rfl) rfl (by omega) (Nat.le_of_ble_eq_true rfl) (fun v2 T2 hp => ?_)
    obtain ⟨r1, r2⟩ := hp
    subst r1; subst r2
    refine V_iload (pc := 1860) dL_law_1860 rfl ?_
    refine V_icmp_eq (pc := 1862) 1867 dL_law_1862 rfl (fun _ => ?_) (fun q => absurd rfl q)
    refine V_iload (pc := 1867) dL_law_1867 rfl ?_
    refine V_if_ne (pc := 1869) 1884 dL_law_1869 rfl (fun _ => ?_) (fun q => absurd q (by decide))
    refine V_goto (pc := 1884) 2780 dL_law_1884 rfl ?_
    exact V_bud (by omega) (by omega) (nxt _ _ _ _ _ _ e3)
theorem law_common {i m q L : Nat} {xs : Nat → Int32} (hq : gV G 100 = q) (hs : gV G 101 = L ∧ ∀ j, nI (gV G (1000 + j)) = xs j) (hL : L ≤ 3072) (hi : i + 6 ≤ L) (hb : gB G ≤ b) (hd : 100 ≤ d) (rel : REL S T) (nxt : ∀ S' T' fo' y' l5 l6, REL S' T' → V G mL_law d m (6 * m) Q 2780 [some (.ref q), some (.ref (b + 0)), some (.ref (b + 68 + 0)), some (.ref (b + 68 + 35)), some (.int (nI i)), l5, l6] [] (jH G b S' T' fo' hS y')) : V G mL_law d (m + 1) (6 * m + 6) Q 1887 [some (.ref q), some (.ref (b + 0)), some (.ref (b + 68 + 0)), some (.ref (b + 68 + 35)), some (.int (nI i)), none, none] [] (jH G b S T fo hS y) := by
  rcases pr_common rel (xs (i + 1)) (xs (i + 2)) with ⟨v, S1, kC, kM⟩ | ⟨kC, kM⟩
  · refine V_aload_n (pc := 1887) (i := 1) dL_law_1887 rfl rfl ?_
    refine V_aload_n (pc := 1888) (i := 0) dL_law_1888 rfl rfl ?_
    refine V_iload (pc := 1889) dL_law_1889 rfl ?_
    refine V_iconst (pc := 1891) (v := 1) dL_law_1891 (by decide) ?_
    refine V_iadd (pc := 1892) dL_law_1892 ?_
    refine J_ld (pc := 1893) (j := i + 1) dL_law_1893 hq hs (nI_add i 1) (by omega) hL ?_
    refine V_aload_n (pc := 1894) (i := 0) dL_law_1894 rfl rfl ?_
    refine V_iload (pc := 1895) dL_law_1895 rfl ?_
    refine V_iconst (pc := 1897) (v := 2) dL_law_1897 (by decide) ?_
    refine V_iadd (pc := 1898) dL_law_1898 ?_
    refine J_ld (pc := 1899) (j := i + 2) dL_law_1899 hq hs (nI_add i 2) (by omega) hL ?_
    refine V_aload_n (pc := 1900) (i := 3) dL_law_1900 rfl rfl ?_
    refine J_S (pc := 1901) dL_law_1901 cL_229 (L_common_ok (d := 90) (fun h0 => kC G b 80 h0 hb (by omega)) hb (by omega)) rfl (Nat.le_of_ble_eq_true rfl) rfl (by omega) (Nat.le_of_ble_eq_true rfl) ?_
    refine V_istore (pc := 1904) dL_law_1904 (by decide) rfl ?_
    refine V_aload_n (pc := 1906) (i := 2) dL_law_1906 rfl rfl ?_
    refine V_aload_n (pc := 1907) (i := 0) dL_law_1907 rfl rfl ?_
    refine V_iload (pc := 1908) dL_law_1908 rfl ?_
    refine V_iconst (pc := 1910) (v := 1) dL_law_1910 (by decide) ?_
    refine V_iadd (pc := 1911) dL_law_1911 ?_
    refine J_ld (pc := 1912) (j := i + 1) dL_law_1912 hq hs (nI_add i 1) (by omega) hL ?_
    refine V_aload_n (pc := 1913) (i := 0) dL_law_1913 rfl rfl ?_
    refine V_iload (pc := 1914) dL_law_1914 rfl ?_
    refine V_iconst (pc := 1916) (v := 2) dL_law_1916 (by decide) ?_
    refine V_iadd (pc := 1917) dL_law_1917 ?_
    refine J_ld (pc := 1918) (j := i + 2) dL_law_1918 hq hs (nI_add i 2) (by omega) hL ?_
    refine J_M (pc := 1919) dL_law_1919 cL_231 (fun h0 => kM G (b + 68) 80 h0 (by omega) (by omega)) rfl (Nat.le_of_ble_eq_true rfl) rfl (by omega) (Nat.le_of_ble_eq_true rfl) (fun v1 T1 hp => ?_)
    obtain ⟨e1, e2, e3⟩ := hp
    subst e1
    refine V_istore (pc := 1922) dL_law_1922 (by decide) rfl ?_
    refine V_aload_n (pc := 1924) (i := 2) dL_law_1924 rfl rfl ?_
    refine J_M (pc := 1925) dL_law_1925 cL_139 (J_thrown e2) rfl (Nat.le_of_ble_eq_true rfl) rfl (by omega) (Nat.le_of_ble_eq_true rfl) (fun v2 T2 hp => ?_)
    obtain ⟨r1, r2⟩ := hp
    subst r1; subst r2
    refine V_iload (pc := 1928) dL_law_1928 rfl ?_
    refine V_icmp_eq (pc := 1930) 1935 dL_law_1930 rfl (fun _ => ?_) (fun q => absurd rfl q)
    refine V_iload (pc := 1935) dL_law_1935 rfl ?_
    refine V_if_ne (pc := 1937) 1952 dL_law_1937 rfl (fun q => absurd rfl q) (fun _ => ?_)
    refine V_aload_n (pc := 1940) (i := 3) dL_law_1940 rfl rfl ?_
    refine V_iconst (pc := 1941) (v := 0) dL_law_1941 (by decide) ?_
    refine J_lald (pc := 1942) dL_law_1942 updL0 ?_
    refine V_iload (pc := 1943) dL_law_1943 rfl ?_
    refine V_i2l (pc := 1945) dL_law_1945 rfl ?_
    refine V_lcmp (pc := 1946) dL_law_1946 ?_
    rw [cmp_0]
    refine V_if_eq (pc := 1947) 1952 dL_law_1947 rfl (fun _ => ?_) (fun q => absurd rfl q)
    refine V_goto (pc := 1952) 2780 dL_law_1952 rfl ?_
    exact V_bud (by omega) (by omega) (nxt _ _ _ _ _ _ e3)
  · refine V_aload_n (pc := 1887) (i := 1) dL_law_1887 rfl rfl ?_
    refine V_aload_n (pc := 1888) (i := 0) dL_law_1888 rfl rfl ?_
    refine V_iload (pc := 1889) dL_law_1889 rfl ?_
    refine V_iconst (pc := 1891) (v := 1) dL_law_1891 (by decide) ?_
    refine V_iadd (pc := 1892) dL_law_1892 ?_
    refine J_ld (pc := 1893) (j := i + 1) dL_law_1893 hq hs (nI_add i 1) (by omega) hL ?_
    refine V_aload_n (pc := 1894) (i := 0) dL_law_1894 rfl rfl ?_
    refine V_iload (pc := 1895) dL_law_1895 rfl ?_
    refine V_iconst (pc := 1897) (v := 2) dL_law_1897 (by decide) ?_
    refine V_iadd (pc := 1898) dL_law_1898 ?_
    refine J_ld (pc := 1899) (j := i + 2) dL_law_1899 hq hs (nI_add i 2) (by omega) hL ?_
    refine V_aload_n (pc := 1900) (i := 3) dL_law_1900 rfl rfl ?_
    refine J_Sth (pc := 1901) (bc := m) (bs := 6 * m) dL_law_1901 cL_229 (L_common_NSE (d := 90) (fun h0 => kC G b 80 h0 hb (by omega)) hb (by omega)) rfl (Nat.le_of_ble_eq_true rfl) rfl (by omega) (Nat.le_of_ble_eq_true rfl) (fun y1 => ?_)
    refine V_istore (pc := 1904) dL_law_1904 (by decide) rfl ?_
    refine V_aload_n (pc := 1906) (i := 2) dL_law_1906 rfl rfl ?_
    refine V_aload_n (pc := 1907) (i := 0) dL_law_1907 rfl rfl ?_
    refine V_iload (pc := 1908) dL_law_1908 rfl ?_
    refine V_iconst (pc := 1910) (v := 1) dL_law_1910 (by decide) ?_
    refine V_iadd (pc := 1911) dL_law_1911 ?_
    refine J_ld (pc := 1912) (j := i + 1) dL_law_1912 hq hs (nI_add i 1) (by omega) hL ?_
    refine V_aload_n (pc := 1913) (i := 0) dL_law_1913 rfl rfl ?_
    refine V_iload (pc := 1914) dL_law_1914 rfl ?_
    refine V_iconst (pc := 1916) (v := 2) dL_law_1916 (by decide) ?_
    refine V_iadd (pc := 1917) dL_law_1917 ?_
    refine J_ld (pc := 1918) (j := i + 2) dL_law_1918 hq hs (nI_add i 2) (by omega) hL ?_
    refine J_M (pc := 1919) dL_law_1919 cL_231 (fun h0 => kM G (b + 68) 80 h0 (by omega) (by omega)) rfl (Nat.le_of_ble_eq_true rfl) rfl (by omega) (Nat.le_of_ble_eq_true rfl) (fun v1 T1 hp => ?_)
    obtain ⟨e1, e2, e3⟩ := hp
    subst e1
    refine V_istore (pc := 1922) dL_law_1922 (by decide) rfl ?_
    refine V_aload_n (pc := 1924) (i := 2) dL_law_1924 rfl rfl ?_
    refine J_M (pc := 1925) dL_law_1925 cL_139 (J_thrown e2) rfl (Nat.le_of_ble_eq_true rfl) rfl (by omega) (Nat.le_of_ble_eq_true rfl) (fun v2 T2 hp => ?_)
    obtain ⟨r1, r2⟩ := hp
    subst r1; subst r2
    refine V_iload (pc := 1928) dL_law_1928 rfl ?_
    refine V_icmp_eq (pc := 1930) 1935 dL_law_1930 rfl (fun _ => ?_) (fun q => absurd rfl q)
    refine V_iload (pc := 1935) dL_law_1935 rfl ?_
    refine V_if_ne (pc := 1937) 1952 dL_law_1937 rfl (fun _ => ?_) (fun q => absurd q (by decide))
    refine V_goto (pc := 1952) 2780 dL_law_1952 rfl ?_
    exact V_bud (by omega) (by omega) (nxt _ _ _ _ _ _ e3)
theorem law_apart {i m q L : Nat} {xs : Nat → Int32} (hq : gV G 100 = q) (hs : gV G 101 = L ∧ ∀ j, nI (gV G (1000 + j)) = xs j) (hL : L ≤ 3072) (hi : i + 6 ≤ L) (hb : gB G ≤ b) (hd : 100 ≤ d) (rel : REL S T) (nxt : ∀ S' T' fo' y' l5 l6, REL S' T' → V G mL_law d m (6 * m) Q 2780 [some (.ref q), some (.ref (b + 0)), some (.ref (b + 68 + 0)), some (.ref (b + 68 + 35)), some (.int (nI i)), l5, l6] [] (jH G b S' T' fo' hS y')) : V G mL_law d (m + 1) (6 * m + 6) Q 1955 [some (.ref q), some (.ref (b + 0)), some (.ref (b + 68 + 0)), some (.ref (b + 68 + 35)), some (.int (nI i)), none, none] [] (jH G b S T fo hS y) := by
  rcases pr_apart rel (xs (i + 1)) (xs (i + 2)) with ⟨v, S1, kC, kM⟩ | ⟨kC, kM⟩
  · refine V_aload_n (pc := 1955) (i := 1) dL_law_1955 rfl rfl ?_
    refine V_aload_n (pc := 1956) (i := 0) dL_law_1956 rfl rfl ?_
    refine V_iload (pc := 1957) dL_law_1957 rfl ?_
    refine V_iconst (pc := 1959) (v := 1) dL_law_1959 (by decide) ?_
    refine V_iadd (pc := 1960) dL_law_1960 ?_
    refine J_ld (pc := 1961) (j := i + 1) dL_law_1961 hq hs (nI_add i 1) (by omega) hL ?_
    refine V_aload_n (pc := 1962) (i := 0) dL_law_1962 rfl rfl ?_
    refine V_iload (pc := 1963) dL_law_1963 rfl ?_
    refine V_iconst (pc := 1965) (v := 2) dL_law_1965 (by decide) ?_
    refine V_iadd (pc := 1966) dL_law_1966 ?_
    refine J_ld (pc := 1967) (j := i + 2) dL_law_1967 hq hs (nI_add i 2) (by omega) hL ?_
    refine V_aload_n (pc := 1968) (i := 3) dL_law_1968 rfl rfl ?_
    refine J_S (pc := 1969) dL_law_1969 cL_232 (L_apart_ok (d := 90) (fun h0 => kC G b 80 h0 hb (by omega)) hb (by omega)) rfl (Nat.le_of_ble_eq_true rfl) rfl (by omega) (Nat.le_of_ble_eq_true rfl) ?_
    refine V_istore (pc := 1972) dL_law_1972 (by decide) rfl ?_
    refine V_aload_n (pc := 1974) (i := 2) dL_law_1974 rfl rfl ?_
    refine V_aload_n (pc := 1975) (i := 0) dL_law_1975 rfl rfl ?_
    refine V_iload (pc := 1976) dL_law_1976 rfl ?_
    refine V_iconst (pc := 1978) (v := 1) dL_law_1978 (by decide) ?_
    refine V_iadd (pc := 1979) dL_law_1979 ?_
    refine J_ld (pc := 1980) (j := i + 1) dL_law_1980 hq hs (nI_add i 1) (by omega) hL ?_
    refine V_aload_n (pc := 1981) (i := 0) dL_law_1981 rfl rfl ?_
    refine V_iload (pc := 1982) dL_law_1982 rfl ?_
    refine V_iconst (pc := 1984) (v := 2) dL_law_1984 (by decide) ?_
    refine V_iadd (pc := 1985) dL_law_1985 ?_
    refine J_ld (pc := 1986) (j := i + 2) dL_law_1986 hq hs (nI_add i 2) (by omega) hL ?_
    refine J_M (pc := 1987) dL_law_1987 cL_234 (fun h0 => kM G (b + 68) 80 h0 (by omega) (by omega)) rfl (Nat.le_of_ble_eq_true rfl) rfl (by omega) (Nat.le_of_ble_eq_true rfl) (fun v1 T1 hp => ?_)
    obtain ⟨e1, e2, e3⟩ := hp
    subst e1
    refine V_istore (pc := 1990) dL_law_1990 (by decide) rfl ?_
    refine V_aload_n (pc := 1992) (i := 2) dL_law_1992 rfl rfl ?_
    refine J_M (pc := 1993) dL_law_1993 cL_139 (J_thrown e2) rfl (Nat.le_of_ble_eq_true rfl) rfl (by omega) (Nat.le_of_ble_eq_true rfl) (fun v2 T2 hp => ?_)
    obtain ⟨r1, r2⟩ := hp
    subst r1; subst r2
    refine V_iload (pc := 1996) dL_law_1996 rfl ?_
    refine V_icmp_eq (pc := 1998) 2003 dL_law_1998 rfl (fun _ => ?_) (fun q => absurd rfl q)
    refine V_iload (pc := 2003) dL_law_2003 rfl ?_
    refine V_if_ne (pc := 2005) 2020 dL_law_2005 rfl (fun q => absurd rfl q) (fun _ => ?_)
    refine V_aload_n (pc := 2008) (i := 3) dL_law_2008 rfl rfl ?_
    refine V_iconst (pc := 2009) (v := 0) dL_law_2009 (by decide) ?_
    refine J_lald (pc := 2010) dL_law_2010 updL0 ?_
    refine V_iload (pc := 2011) dL_law_2011 rfl ?_
    refine V_i2l (pc := 2013) dL_law_2013 rfl ?_
    refine V_lcmp (pc := 2014) dL_law_2014 ?_
    rw [cmp_0]
    refine V_if_eq (pc := 2015) 2020 dL_law_2015 rfl (fun _ => ?_) (fun q => absurd rfl q)
    refine V_goto (pc := 2020) 2780 dL_law_2020 rfl ?_
    exact V_bud (by omega) (by omega) (nxt _ _ _ _ _ _ e3)
  · refine V_aload_n (pc := 1955) (i := 1) dL_law_1955 rfl rfl ?_
    refine V_aload_n (pc := 1956) (i := 0) dL_law_1956 rfl rfl ?_
    refine V_iload (pc := 1957) dL_law_1957 rfl ?_
    refine V_iconst (pc := 1959) (v := 1) dL_law_1959 (by decide) ?_
    refine V_iadd (pc := 1960) dL_law_1960 ?_
    refine J_ld (pc := 1961) (j := i + 1) dL_law_1961 hq hs (nI_add i 1) (by omega) hL ?_
    refine V_aload_n (pc := 1962) (i := 0) dL_law_1962 rfl rfl ?_
    refine V_iload (pc := 1963) dL_law_1963 rfl ?_
    refine V_iconst (pc := 1965) (v := 2) dL_law_1965 (by decide) ?_
    refine V_iadd (pc := 1966) dL_law_1966 ?_
    refine J_ld (pc := 1967) (j := i + 2) dL_law_1967 hq hs (nI_add i 2) (by omega) hL ?_
    refine V_aload_n (pc := 1968) (i := 3) dL_law_1968 rfl rfl ?_
    refine J_Sth (pc := 1969) (bc := m) (bs := 6 * m) dL_law_1969 cL_232 (L_apart_NSE (d := 90) (fun h0 => kC G b 80 h0 hb (by omega)) hb (by omega)) rfl (Nat.le_of_ble_eq_true rfl) rfl (by omega) (Nat.le_of_ble_eq_true rfl) (fun y1 => ?_)
    refine V_istore (pc := 1972) dL_law_1972 (by decide) rfl ?_
    refine V_aload_n (pc := 1974) (i := 2) dL_law_1974 rfl rfl ?_
    refine V_aload_n (pc := 1975) (i := 0) dL_law_1975 rfl rfl ?_
    refine V_iload (pc := 1976) dL_law_1976 rfl ?_
    refine V_iconst (pc := 1978) (v := 1) dL_law_1978 (by decide) ?_
    refine V_iadd (pc := 1979) dL_law_1979 ?_
    refine J_ld (pc := 1980) (j := i + 1) dL_law_1980 hq hs (nI_add i 1) (by omega) hL ?_
    refine V_aload_n (pc := 1981) (i := 0) dL_law_1981 rfl rfl ?_
    refine V_iload (pc := 1982) dL_law_1982 rfl ?_
    refine V_iconst (pc := 1984) (v := 2) dL_law_1984 (by decide) ?_
    refine V_iadd (pc := 1985) dL_law_1985 ?_
    refine J_ld (pc := 1986) (j := i + 2) dL_law_1986 hq hs (nI_add i 2) (by omega) hL ?_
    refine J_M (pc := 1987) dL_law_1987 cL_234 (fun h0 => kM G (b + 68) 80 h0 (by omega) (by omega)) rfl (Nat.le_of_ble_eq_true rfl) rfl (by omega) (Nat.le_of_ble_eq_true rfl) (fun v1 T1 hp => ?_)
    obtain ⟨e1, e2, e3⟩ := hp
    subst e1
    refine V_istore (pc := 1990) dL_law_1990 (by decide) rfl ?_
    refine V_aload_n (pc := 1992) (i := 2) dL_law_1992 rfl rfl ?_
    refine J_M (pc := 1993) dL_law_1993 cL_139 (J_thrown e2) rfl (Nat.le_of_ble_eq_true rfl) rfl (by omega) (Nat.le_of_ble_eq_true rfl) (fun v2 T2 hp => ?_)
    obtain ⟨r1, r2⟩ := hp
    subst r1; subst r2
    refine V_iload (pc := 1996) dL_law_1996 rfl ?_
    refine V_icmp_eq (pc := 1998) 2003 dL_law_1998 rfl (fun _ => ?_) (fun q => absurd rfl q)
    refine V_iload (pc := 2003) dL_law_2003 rfl ?_
    refine V_if_ne (pc := 2005) 2020 dL_law_2005 rfl (fun _ => ?_) (fun q => absurd q (by decide))
    refine V_goto (pc := 2020) 2780 dL_law_2020 rfl ?_
    exact V_bud (by omega) (by omega) (nxt _ _ _ _ _ _ e3)
end J3
