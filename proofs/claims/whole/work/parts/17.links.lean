/-! ===== words of the tables, by their places; links ===== -/
theorem lw_t {w : Cond} {i : Nat} (h : tables_1[i]? = some w) (hg : goodWord w = true) : w ∈ lw_good := lw_good_of (show w ∈ k2_sels lw_privs ++ tables_1 from List.mem_append_right _ (List.mem_of_getElem? h)) hg
theorem lw_s {w : Cond} {i : Nat} (h : (k2_sels lw_privs)[i]? = some w) (hg : goodWord w = true) : w ∈ lw_good := lw_good_of (show w ∈ k2_sels lw_privs ++ tables_1 from List.mem_append_left _ (List.mem_of_getElem? h)) hg
theorem inX0 : ∀ w ∈ u_ws RX0 TX0 3, w ∈ lw_good := fun w hw => lw_good_of ((by decide +kernel : ∀ w ∈ u_ws RX0 TX0 3, w ∈ lw_tbl) w hw) (List.all_eq_true.mp (by decide +kernel : (u_ws RX0 TX0 3).all goodWord = true) w hw)
theorem ftX0 : FT 0 := fun C T N h => by
  cases h
  exact ⟨nmX0, fun k hk => ⟨_, tyX0_ok k hk⟩⟩
theorem inX1 : ∀ w ∈ u_ws RX1 TX1 5, w ∈ lw_good := fun w hw => lw_good_of ((by decide +kernel : ∀ w ∈ u_ws RX1 TX1 5, w ∈ lw_tbl) w hw) (List.all_eq_true.mp (by decide +kernel : (u_ws RX1 TX1 5).all goodWord = true) w hw)
theorem ftX1 : FT 1 := fun C T N h => by
  cases h
  exact ⟨nmX1, fun k hk => ⟨_, tyX1_ok k hk⟩⟩
theorem inX2 : ∀ w ∈ u_ws RX2 TX2 5, w ∈ lw_good := fun w hw => lw_good_of ((by decide +kernel : ∀ w ∈ u_ws RX2 TX2 5, w ∈ lw_tbl) w hw) (List.all_eq_true.mp (by decide +kernel : (u_ws RX2 TX2 5).all goodWord = true) w hw)
theorem ftX2 : FT 2 := fun C T N h => by
  cases h
  exact ⟨nmX2, fun k hk => ⟨_, tyX2_ok k hk⟩⟩
theorem inX3 : ∀ w ∈ u_ws RX3 TX3 4, w ∈ lw_good := fun w hw => lw_good_of ((by decide +kernel : ∀ w ∈ u_ws RX3 TX3 4, w ∈ lw_tbl) w hw) (List.all_eq_true.mp (by decide +kernel : (u_ws RX3 TX3 4).all goodWord = true) w hw)
theorem ftX3 : FT 3 := fun C T N h => by
  cases h
  exact ⟨nmX3, fun k hk => ⟨_, tyX3_ok k hk⟩⟩
theorem inX4 : ∀ w ∈ u_ws RX4 TX4 3, w ∈ lw_good := fun w hw => lw_good_of ((by decide +kernel : ∀ w ∈ u_ws RX4 TX4 3, w ∈ lw_tbl) w hw) (List.all_eq_true.mp (by decide +kernel : (u_ws RX4 TX4 3).all goodWord = true) w hw)
theorem ftX4 : FT 4 := fun C T N h => by
  cases h
  exact ⟨nmX4, fun k hk => ⟨_, tyX4_ok k hk⟩⟩
theorem inX5 : ∀ w ∈ u_ws RX5 TX5 4, w ∈ lw_good := fun w hw => lw_good_of ((by decide +kernel : ∀ w ∈ u_ws RX5 TX5 4, w ∈ lw_tbl) w hw) (List.all_eq_true.mp (by decide +kernel : (u_ws RX5 TX5 4).all goodWord = true) w hw)
theorem ftX5 : FT 5 := fun C T N h => by
  cases h
  exact ⟨nmX5, fun k hk => ⟨_, tyX5_ok k hk⟩⟩
theorem inX6 : ∀ w ∈ u_ws RX6 TX6 2, w ∈ lw_good := fun w hw => lw_good_of ((by decide +kernel : ∀ w ∈ u_ws RX6 TX6 2, w ∈ lw_tbl) w hw) (List.all_eq_true.mp (by decide +kernel : (u_ws RX6 TX6 2).all goodWord = true) w hw)
theorem ftX6 : FT 6 := fun C T N h => by
  cases h
  exact ⟨nmX6, fun k hk => ⟨_, tyX6_ok k hk⟩⟩
theorem inX7 : ∀ w ∈ u_ws RX7 TX7 11, w ∈ lw_good := fun w hw => lw_good_of ((by decide +kernel : ∀ w ∈ u_ws RX7 TX7 11, w ∈ lw_tbl) w hw) (List.all_eq_true.mp (by decide +kernel : (u_ws RX7 TX7 11).all goodWord = true) w hw)
theorem ftX7 : FT 7 := fun C T N h => by
  cases h
  exact ⟨nmX7, fun k hk => ⟨_, tyX7_ok k hk⟩⟩
theorem inX8 : ∀ w ∈ u_ws RX8 TX8 8, w ∈ lw_good := fun w hw => lw_good_of ((by decide +kernel : ∀ w ∈ u_ws RX8 TX8 8, w ∈ lw_tbl) w hw) (List.all_eq_true.mp (by decide +kernel : (u_ws RX8 TX8 8).all goodWord = true) w hw)
theorem ftX8 : FT 8 := fun C T N h => by
  cases h
  exact ⟨nmX8, fun k hk => ⟨_, tyX8_ok k hk⟩⟩
theorem inX9 : ∀ w ∈ u_ws RX9 TX9 7, w ∈ lw_good := fun w hw => lw_good_of ((by decide +kernel : ∀ w ∈ u_ws RX9 TX9 7, w ∈ lw_tbl) w hw) (List.all_eq_true.mp (by decide +kernel : (u_ws RX9 TX9 7).all goodWord = true) w hw)
theorem ftX9 : FT 9 := fun C T N h => by
  cases h
  exact ⟨nmX9, fun k hk => ⟨_, tyX9_ok k hk⟩⟩
theorem inX10 : ∀ w ∈ u_ws RX10 TX10 8, w ∈ lw_good := fun w hw => lw_good_of ((by decide +kernel : ∀ w ∈ u_ws RX10 TX10 8, w ∈ lw_tbl) w hw) (List.all_eq_true.mp (by decide +kernel : (u_ws RX10 TX10 8).all goodWord = true) w hw)
theorem ftX10 : FT 10 := fun C T N h => by
  cases h
  exact ⟨nmX10, fun k hk => ⟨_, tyX10_ok k hk⟩⟩
theorem inX11 : ∀ w ∈ u_ws RX11 TX11 12, w ∈ lw_good := fun w hw => lw_good_of ((by decide +kernel : ∀ w ∈ u_ws RX11 TX11 12, w ∈ lw_tbl) w hw) (List.all_eq_true.mp (by decide +kernel : (u_ws RX11 TX11 12).all goodWord = true) w hw)
theorem ftX11 : FT 11 := fun C T N h => by
  cases h
  exact ⟨nmX11, fun k hk => ⟨_, tyX11_ok k hk⟩⟩
theorem inX12 : ∀ w ∈ u_ws RX12 TX12 57, w ∈ lw_good := fun w hw => lw_good_of ((by decide +kernel : ∀ w ∈ u_ws RX12 TX12 57, w ∈ lw_tbl) w hw) (List.all_eq_true.mp (by decide +kernel : (u_ws RX12 TX12 57).all goodWord = true) w hw)
theorem ftX12 : FT 12 := fun C T N h => by
  cases h
  exact ⟨nmX12, fun k hk => ⟨_, tyX12_ok k hk⟩⟩
theorem tw34 : Cond.instanceMethod ⟨"java/lang/Object", "<init>", "()V"⟩ ∈ lw_good := lw_t (i := 34) (by decide +kernel) (by decide +kernel)
theorem w_objI : Cond.instanceMethod Lib.objectInit ∈ lw_good := tw34
theorem w_objC : Cond.code Lib.objectInit ⟨#[0xb1]⟩ 1 none ∈ lw_good := lw_t (i := 35) (by decide +kernel) (by decide +kernel)
theorem w_maxS : Cond.static Lib.Math.max.name ∈ lw_good := lw_t (i := 506) (by decide +kernel) (by decide +kernel)
theorem w_maxC : Cond.code Lib.Math.max.name Lib.Math.max.code 2 (some .int) ∈ lw_good := lw_t (i := 507) (by decide +kernel) (by decide +kernel)
theorem w_minS : Cond.static Lib.Math.min.name ∈ lw_good := lw_t (i := 519) (by decide +kernel) (by decide +kernel)
theorem w_minC : Cond.code Lib.Math.min.name Lib.Math.min.code 2 (some .int) ∈ lw_good := lw_t (i := 520) (by decide +kernel) (by decide +kernel)
theorem tw19 : Cond.initialized "java/lang/Math" ∈ lw_good := lw_t (i := 19) (by decide +kernel) (by decide +kernel)
theorem w_mathI : Cond.initialized "java/lang/Math" ∈ lw_good := tw19
theorem tw25 : Cond.initialized "java/lang/System" ∈ lw_good := lw_t (i := 25) (by decide +kernel) (by decide +kernel)
theorem w_copy : Cond.native arraycopyName ∈ lw_good ∧ Cond.static arraycopyName ∈ lw_good ∧ Cond.initialized "java/lang/System" ∈ lw_good := ⟨lw_t (i := 428) (by decide +kernel) (by decide +kernel), lw_t (i := 427) (by decide +kernel) (by decide +kernel), tw25⟩
theorem tw246 : Cond.methodLink "RiverIfs$Acts" 3 ⟨"java/lang/Object", "<init>", "()V"⟩ ∈ lw_good := lw_t (i := 246) (by decide +kernel) (by decide +kernel)
theorem cX0_3 : Cond.methodLink RX0 3 Lib.objectInit ∈ lw_good := tw246
theorem tw247 : Cond.fieldLink "RiverIfs$Acts" 11 "RiverIfs$Acts" "rows" "[I" ∈ lw_good := lw_t (i := 247) (by decide +kernel) (by decide +kernel)
theorem fX0_11 : FL RX0 11 0 0 := ⟨_, _, _, rfl, by decide, inX0, tw247, rfl⟩
theorem tw248 : Cond.fieldLink "RiverIfs$Acts" 17 "RiverIfs$Acts" "oldest" "I" ∈ lw_good := lw_t (i := 248) (by decide +kernel) (by decide +kernel)
theorem fX0_17 : FL RX0 17 0 1 := ⟨_, _, _, rfl, by decide, inX0, tw248, rfl⟩
theorem tw249 : Cond.fieldLink "RiverIfs$Acts" 21 "RiverIfs$Acts" "size" "I" ∈ lw_good := lw_t (i := 249) (by decide +kernel) (by decide +kernel)
theorem fX0_21 : FL RX0 21 0 2 := ⟨_, _, _, rfl, by decide, inX0, tw249, rfl⟩
theorem tw425 : Cond.code ⟨"RiverIfs$State", "writeTo", "([II)V"⟩ prog_10_method_4_code 3 (none) ∈ lw_good := lw_t (i := 425) (by decide +kernel) (by decide +kernel)
theorem tw7 : Cond.initialized "RiverIfs$State" ∈ lw_good := lw_t (i := 7) (by decide +kernel) (by decide +kernel)
theorem cmX8_writeTo (own : String) (idx : Nat) : CM own idx mX8_writeTo 2 := ⟨⟨by decide +kernel, rfl, by decide⟩, ⟨tw425, tw7⟩, by decide +kernel, by decide +kernel, by decide +kernel⟩
theorem tw423 : Cond.instanceMethod ⟨"RiverIfs$State", "writeTo", "([II)V"⟩ ∈ lw_good := lw_t (i := 423) (by decide +kernel) (by decide +kernel)
theorem tw424 : Cond.selects "RiverIfs$State" ⟨"RiverIfs$State", "writeTo", "([II)V"⟩ ⟨"RiverIfs$State", "writeTo", "([II)V"⟩ ∈ lw_good := lw_t (i := 424) (by decide +kernel) (by decide +kernel)
theorem tw422 : Cond.methodLink "RiverIfs$Acts" 24 ⟨"RiverIfs$State", "writeTo", "([II)V"⟩ ∈ lw_good := lw_t (i := 422) (by decide +kernel) (by decide +kernel)
theorem cX0_24 : CV RX0 24 mX8_writeTo 2 8 := ⟨cmX8_writeTo _ _, _, _, _, rfl, tw422, tw423, tw424⟩
theorem tw541 : Cond.code ⟨"RiverIfs$State", "readFrom", "([II)V"⟩ prog_10_method_5_code 3 (none) ∈ lw_good := lw_t (i := 541) (by decide +kernel) (by decide +kernel)
theorem cmX8_readFrom (own : String) (idx : Nat) : CM own idx mX8_readFrom 2 := ⟨⟨by decide +kernel, rfl, by decide⟩, ⟨tw541, tw7⟩, by decide +kernel, by decide +kernel, by decide +kernel⟩
theorem tw539 : Cond.instanceMethod ⟨"RiverIfs$State", "readFrom", "([II)V"⟩ ∈ lw_good := lw_t (i := 539) (by decide +kernel) (by decide +kernel)
theorem tw540 : Cond.selects "RiverIfs$State" ⟨"RiverIfs$State", "readFrom", "([II)V"⟩ ⟨"RiverIfs$State", "readFrom", "([II)V"⟩ ∈ lw_good := lw_t (i := 540) (by decide +kernel) (by decide +kernel)
theorem tw538 : Cond.methodLink "RiverIfs$Acts" 28 ⟨"RiverIfs$State", "readFrom", "([II)V"⟩ ∈ lw_good := lw_t (i := 538) (by decide +kernel) (by decide +kernel)
theorem cX0_28 : CV RX0 28 mX8_readFrom 2 8 := ⟨cmX8_readFrom _ _, _, _, _, rfl, tw538, tw539, tw540⟩
theorem tw568 : Cond.methodLink "RiverIfs$Acts" 31 ⟨"java/lang/System", "arraycopy", "(Ljava/lang/Object;ILjava/lang/Object;II)V"⟩ ∈ lw_good := lw_t (i := 568) (by decide +kernel) (by decide +kernel)
theorem cX0_31 : Cond.methodLink RX0 31 arraycopyName ∈ lw_good := tw568
theorem tw85 : Cond.methodLink "RiverIfs$Ifs" 3 ⟨"java/lang/Object", "<init>", "()V"⟩ ∈ lw_good := lw_t (i := 85) (by decide +kernel) (by decide +kernel)
theorem cX1_3 : Cond.methodLink RX1 3 Lib.objectInit ∈ lw_good := tw85
theorem tw86 : Cond.fieldLink "RiverIfs$Ifs" 9 "RiverIfs$Ifs" "needs" "[I" ∈ lw_good := lw_t (i := 86) (by decide +kernel) (by decide +kernel)
theorem fX1_9 : FL RX1 9 1 0 := ⟨_, _, _, rfl, by decide, inX1, tw86, rfl⟩
theorem tw88 : Cond.fieldLink "RiverIfs$Ifs" 15 "RiverIfs$Ifs" "bars" "[I" ∈ lw_good := lw_t (i := 88) (by decide +kernel) (by decide +kernel)
theorem fX1_15 : FL RX1 15 1 1 := ⟨_, _, _, rfl, by decide, inX1, tw88, rfl⟩
theorem tw90 : Cond.fieldLink "RiverIfs$Ifs" 18 "RiverIfs$Ifs" "gives" "[I" ∈ lw_good := lw_t (i := 90) (by decide +kernel) (by decide +kernel)
theorem fX1_18 : FL RX1 18 1 2 := ⟨_, _, _, rfl, by decide, inX1, tw90, rfl⟩
theorem tw93 : Cond.fieldLink "RiverIfs$Ifs" 21 "RiverIfs$Ifs" "unless" "I" ∈ lw_good := lw_t (i := 93) (by decide +kernel) (by decide +kernel)
theorem fX1_21 : FL RX1 21 1 3 := ⟨_, _, _, rfl, by decide, inX1, tw93, rfl⟩
theorem tw95 : Cond.fieldLink "RiverIfs$Ifs" 25 "RiverIfs$Ifs" "size" "I" ∈ lw_good := lw_t (i := 95) (by decide +kernel) (by decide +kernel)
theorem fX1_25 : FL RX1 25 1 4 := ⟨_, _, _, rfl, by decide, inX1, tw95, rfl⟩
theorem tw455 : Cond.code ⟨"RiverIfs", "isIn", "(II)Z"⟩ prog_1_method_64_code 2 (some .boolean) ∈ lw_good := lw_t (i := 455) (by decide +kernel) (by decide +kernel)
theorem tw1 : Cond.initialized "RiverIfs" ∈ lw_good := lw_t (i := 1) (by decide +kernel) (by decide +kernel)
theorem cmX11_isIn (own : String) (idx : Nat) : CM own idx mX11_isIn 2 := ⟨⟨by decide +kernel, rfl, by decide⟩, ⟨tw455, tw1⟩, by decide +kernel, by decide +kernel, by decide +kernel⟩
theorem tw454 : Cond.static ⟨"RiverIfs", "isIn", "(II)Z"⟩ ∈ lw_good := lw_t (i := 454) (by decide +kernel) (by decide +kernel)
theorem cX1_28 : CSN RX1 28 mX11_isIn 2 := ⟨cmX11_isIn _ _, ⟨"RiverIfs", by decide +kernel⟩, tw454⟩
theorem tw452 : Cond.code ⟨"RiverIfs$Ifs", "firstBringing", "(III)I"⟩ prog_3_method_4_code 6 (some .int) ∈ lw_good := lw_t (i := 452) (by decide +kernel) (by decide +kernel)
theorem tw5 : Cond.initialized "RiverIfs$Ifs" ∈ lw_good := lw_t (i := 5) (by decide +kernel) (by decide +kernel)
theorem cmX1_firstBringing (own : String) (idx : Nat) : CM own idx mX1_firstBringing 3 := ⟨⟨by decide +kernel, rfl, by decide⟩, ⟨tw452, tw5⟩, by decide +kernel, by decide +kernel, by decide +kernel⟩
theorem tw450 : Cond.instanceMethod ⟨"RiverIfs$Ifs", "firstBringing", "(III)I"⟩ ∈ lw_good := lw_t (i := 450) (by decide +kernel) (by decide +kernel)
theorem tw451 : Cond.selects "RiverIfs$Ifs" ⟨"RiverIfs$Ifs", "firstBringing", "(III)I"⟩ ⟨"RiverIfs$Ifs", "firstBringing", "(III)I"⟩ ∈ lw_good := lw_t (i := 451) (by decide +kernel) (by decide +kernel)
theorem tw449 : Cond.methodLink "RiverIfs$Ifs" 32 ⟨"RiverIfs$Ifs", "firstBringing", "(III)I"⟩ ∈ lw_good := lw_t (i := 449) (by decide +kernel) (by decide +kernel)
theorem cX1_32 : CV RX1 32 mX1_firstBringing 3 1 := ⟨cmX1_firstBringing _ _, _, _, _, rfl, tw449, tw450, tw451⟩
theorem tw966 : Cond.code ⟨"RiverIfs$Ifs", "ledFrom", "(II)I"⟩ prog_3_method_6_code 5 (some .int) ∈ lw_good := lw_t (i := 966) (by decide +kernel) (by decide +kernel)
theorem cmX1_ledFrom (own : String) (idx : Nat) : CM own idx mX1_ledFrom 2 := ⟨⟨by decide +kernel, rfl, by decide⟩, ⟨tw966, tw5⟩, by decide +kernel, by decide +kernel, by decide +kernel⟩
theorem tw965 : Cond.instanceMethod ⟨"RiverIfs$Ifs", "ledFrom", "(II)I"⟩ ∈ lw_good := lw_t (i := 965) (by decide +kernel) (by decide +kernel)
theorem ts30 : Cond.selects "RiverIfs$Ifs" ⟨"RiverIfs$Ifs", "ledFrom", "(II)I"⟩ ⟨"RiverIfs$Ifs", "ledFrom", "(II)I"⟩ ∈ lw_good := lw_s (i := 30) (by decide +kernel) (by decide +kernel)
theorem tw963 : Cond.methodLink "RiverIfs$Ifs" 36 ⟨"RiverIfs$Ifs", "ledFrom", "(II)I"⟩ ∈ lw_good := lw_t (i := 963) (by decide +kernel) (by decide +kernel)
theorem cX1_36 : CV RX1 36 mX1_ledFrom 2 1 := ⟨cmX1_ledFrom _ _, _, _, _, rfl, tw963, tw965, ts30⟩
theorem tw962 : Cond.code ⟨"RiverIfs$Ifs", "stepsTo", "(III)I"⟩ prog_3_method_7_code 6 (some .int) ∈ lw_good := lw_t (i := 962) (by decide +kernel) (by decide +kernel)
theorem cmX1_stepsTo (own : String) (idx : Nat) : CM own idx mX1_stepsTo 3 := ⟨⟨by decide +kernel, rfl, by decide⟩, ⟨tw962, tw5⟩, by decide +kernel, by decide +kernel, by decide +kernel⟩
theorem tw960 : Cond.instanceMethod ⟨"RiverIfs$Ifs", "stepsTo", "(III)I"⟩ ∈ lw_good := lw_t (i := 960) (by decide +kernel) (by decide +kernel)
theorem tw961 : Cond.selects "RiverIfs$Ifs" ⟨"RiverIfs$Ifs", "stepsTo", "(III)I"⟩ ⟨"RiverIfs$Ifs", "stepsTo", "(III)I"⟩ ∈ lw_good := lw_t (i := 961) (by decide +kernel) (by decide +kernel)
theorem tw959 : Cond.methodLink "RiverIfs$Ifs" 40 ⟨"RiverIfs$Ifs", "stepsTo", "(III)I"⟩ ∈ lw_good := lw_t (i := 959) (by decide +kernel) (by decide +kernel)
theorem cX1_40 : CV RX1 40 mX1_stepsTo 3 1 := ⟨cmX1_stepsTo _ _, _, _, _, rfl, tw959, tw960, tw961⟩
theorem tw283 : Cond.methodLink "RiverIfs$Image" 3 ⟨"java/lang/Object", "<init>", "()V"⟩ ∈ lw_good := lw_t (i := 283) (by decide +kernel) (by decide +kernel)
theorem cX2_3 : Cond.methodLink RX2 3 Lib.objectInit ∈ lw_good := tw283
theorem tw284 : Cond.classLink "RiverIfs$Image" 9 "RiverIfs$State" ∈ lw_good := lw_t (i := 284) (by decide +kernel) (by decide +kernel)
theorem tw193 : Cond.instantiable "RiverIfs$State" 8 ∈ lw_good := lw_t (i := 193) (by decide +kernel) (by decide +kernel)
theorem nX2_9 : NW RX2 9 8 8 (fun k => defaultValue (tyX8 k)) := ⟨_, _, tyX8, rfl, inX8, tyX8_ok, fun _ _ => rfl, tw284, tw193, tw7⟩
theorem tw196 : Cond.code ⟨"RiverIfs$State", "<init>", "()V"⟩ prog_10_method_1_code 1 (none) ∈ lw_good := lw_t (i := 196) (by decide +kernel) (by decide +kernel)
theorem cmX8_init (own : String) (idx : Nat) : CM own idx mX8_init 0 := ⟨⟨by decide +kernel, rfl, by decide⟩, ⟨tw196, tw7⟩, by decide +kernel, by decide +kernel, by decide +kernel⟩
theorem tw195 : Cond.instanceMethod ⟨"RiverIfs$State", "<init>", "()V"⟩ ∈ lw_good := lw_t (i := 195) (by decide +kernel) (by decide +kernel)
theorem cX2_11 : CIN RX2 11 mX8_init 0 := ⟨cmX8_init _ _, rfl, rfl, ⟨"RiverIfs", by decide +kernel⟩, tw195⟩
theorem tw290 : Cond.fieldLink "RiverIfs$Image" 12 "RiverIfs$Image" "state" "LRiverIfs$State;" ∈ lw_good := lw_t (i := 290) (by decide +kernel) (by decide +kernel)
theorem fX2_12 : FL RX2 12 2 0 := ⟨_, _, _, rfl, by decide, inX2, tw290, rfl⟩
theorem tw286 : Cond.classLink "RiverIfs$Image" 18 "RiverIfs$Acts" ∈ lw_good := lw_t (i := 286) (by decide +kernel) (by decide +kernel)
theorem tw242 : Cond.instantiable "RiverIfs$Acts" 3 ∈ lw_good := lw_t (i := 242) (by decide +kernel) (by decide +kernel)
theorem tw8 : Cond.initialized "RiverIfs$Acts" ∈ lw_good := lw_t (i := 8) (by decide +kernel) (by decide +kernel)
theorem nX2_18 : NW RX2 18 0 3 (fun k => defaultValue (tyX0 k)) := ⟨_, _, tyX0, rfl, inX0, tyX0_ok, fun _ _ => rfl, tw286, tw242, tw8⟩
theorem tw245 : Cond.code ⟨"RiverIfs$Acts", "<init>", "()V"⟩ prog_2_method_1_code 1 (none) ∈ lw_good := lw_t (i := 245) (by decide +kernel) (by decide +kernel)
theorem cmX0_init (own : String) (idx : Nat) : CM own idx mX0_init 0 := ⟨⟨by decide +kernel, rfl, by decide⟩, ⟨tw245, tw8⟩, by decide +kernel, by decide +kernel, by decide +kernel⟩
theorem tw244 : Cond.instanceMethod ⟨"RiverIfs$Acts", "<init>", "()V"⟩ ∈ lw_good := lw_t (i := 244) (by decide +kernel) (by decide +kernel)
theorem cX2_20 : CIN RX2 20 mX0_init 0 := ⟨cmX0_init _ _, rfl, rfl, ⟨"RiverIfs", by decide +kernel⟩, tw244⟩
theorem tw292 : Cond.fieldLink "RiverIfs$Image" 21 "RiverIfs$Image" "acts" "LRiverIfs$Acts;" ∈ lw_good := lw_t (i := 292) (by decide +kernel) (by decide +kernel)
theorem fX2_21 : FL RX2 21 2 1 := ⟨_, _, _, rfl, by decide, inX2, tw292, rfl⟩
theorem tw288 : Cond.classLink "RiverIfs$Image" 25 "RiverIfs$Seen" ∈ lw_good := lw_t (i := 288) (by decide +kernel) (by decide +kernel)
theorem tw259 : Cond.instantiable "RiverIfs$Seen" 4 ∈ lw_good := lw_t (i := 259) (by decide +kernel) (by decide +kernel)
theorem tw9 : Cond.initialized "RiverIfs$Seen" ∈ lw_good := lw_t (i := 9) (by decide +kernel) (by decide +kernel)
theorem nX2_25 : NW RX2 25 5 4 (fun k => defaultValue (tyX5 k)) := ⟨_, _, tyX5, rfl, inX5, tyX5_ok, fun _ _ => rfl, tw288, tw259, tw9⟩
theorem tw262 : Cond.code ⟨"RiverIfs$Seen", "<init>", "()V"⟩ prog_7_method_1_code 1 (none) ∈ lw_good := lw_t (i := 262) (by decide +kernel) (by decide +kernel)
theorem cmX5_init (own : String) (idx : Nat) : CM own idx mX5_init 0 := ⟨⟨by decide +kernel, rfl, by decide⟩, ⟨tw262, tw9⟩, by decide +kernel, by decide +kernel, by decide +kernel⟩
theorem tw261 : Cond.instanceMethod ⟨"RiverIfs$Seen", "<init>", "()V"⟩ ∈ lw_good := lw_t (i := 261) (by decide +kernel) (by decide +kernel)
theorem cX2_27 : CIN RX2 27 mX5_init 0 := ⟨cmX5_init _ _, rfl, rfl, ⟨"RiverIfs", by decide +kernel⟩, tw261⟩
theorem tw294 : Cond.fieldLink "RiverIfs$Image" 28 "RiverIfs$Image" "seen" "LRiverIfs$Seen;" ∈ lw_good := lw_t (i := 294) (by decide +kernel) (by decide +kernel)
theorem fX2_28 : FL RX2 28 2 2 := ⟨_, _, _, rfl, by decide, inX2, tw294, rfl⟩
theorem tw296 : Cond.fieldLink "RiverIfs$Image" 32 "RiverIfs$Image" "status" "[I" ∈ lw_good := lw_t (i := 296) (by decide +kernel) (by decide +kernel)
theorem fX2_32 : FL RX2 32 2 3 := ⟨_, _, _, rfl, by decide, inX2, tw296, rfl⟩
theorem tw298 : Cond.fieldLink "RiverIfs$Image" 36 "RiverIfs$Image" "there" "Z" ∈ lw_good := lw_t (i := 298) (by decide +kernel) (by decide +kernel)
theorem fX2_36 : FL RX2 36 2 4 := ⟨_, _, _, rfl, by decide, inX2, tw298, rfl⟩
theorem tw41 : Cond.methodLink "RiverIfs$Reader" 3 ⟨"java/lang/Object", "<init>", "()V"⟩ ∈ lw_good := lw_t (i := 41) (by decide +kernel) (by decide +kernel)
theorem cX3_3 : Cond.methodLink RX3 3 Lib.objectInit ∈ lw_good := tw41
theorem tw42 : Cond.classLink "RiverIfs$Reader" 9 "RiverIfs$Tape" ∈ lw_good := lw_t (i := 42) (by decide +kernel) (by decide +kernel)
theorem tw43 : Cond.instantiable "RiverIfs$Tape" 7 ∈ lw_good := lw_t (i := 43) (by decide +kernel) (by decide +kernel)
theorem tw3 : Cond.initialized "RiverIfs$Tape" ∈ lw_good := lw_t (i := 3) (by decide +kernel) (by decide +kernel)
theorem nX3_9 : NW RX3 9 9 7 (fun k => defaultValue (tyX9 k)) := ⟨_, _, tyX9, rfl, inX9, tyX9_ok, fun _ _ => rfl, tw42, tw43, tw3⟩
theorem tw46 : Cond.code ⟨"RiverIfs$Tape", "<init>", "()V"⟩ prog_11_method_1_code 1 (none) ∈ lw_good := lw_t (i := 46) (by decide +kernel) (by decide +kernel)
theorem cmX9_init (own : String) (idx : Nat) : CM own idx mX9_init 0 := ⟨⟨by decide +kernel, rfl, by decide⟩, ⟨tw46, tw3⟩, by decide +kernel, by decide +kernel, by decide +kernel⟩
theorem tw45 : Cond.instanceMethod ⟨"RiverIfs$Tape", "<init>", "()V"⟩ ∈ lw_good := lw_t (i := 45) (by decide +kernel) (by decide +kernel)
theorem cX3_11 : CIN RX3 11 mX9_init 0 := ⟨cmX9_init _ _, rfl, rfl, ⟨"RiverIfs", by decide +kernel⟩, tw45⟩
theorem tw177 : Cond.fieldLink "RiverIfs$Reader" 12 "RiverIfs$Reader" "tape" "LRiverIfs$Tape;" ∈ lw_good := lw_t (i := 177) (by decide +kernel) (by decide +kernel)
theorem fX3_12 : FL RX3 12 3 0 := ⟨_, _, _, rfl, by decide, inX3, tw177, rfl⟩
theorem tw74 : Cond.classLink "RiverIfs$Reader" 18 "RiverIfs$Shore" ∈ lw_good := lw_t (i := 74) (by decide +kernel) (by decide +kernel)
theorem tw75 : Cond.instantiable "RiverIfs$Shore" 11 ∈ lw_good := lw_t (i := 75) (by decide +kernel) (by decide +kernel)
theorem tw4 : Cond.initialized "RiverIfs$Shore" ∈ lw_good := lw_t (i := 4) (by decide +kernel) (by decide +kernel)
theorem nX3_18 : NW RX3 18 7 11 (fun k => defaultValue (tyX7 k)) := ⟨_, _, tyX7, rfl, inX7, tyX7_ok, fun _ _ => rfl, tw74, tw75, tw4⟩
theorem tw78 : Cond.code ⟨"RiverIfs$Shore", "<init>", "()V"⟩ prog_9_method_1_code 1 (none) ∈ lw_good := lw_t (i := 78) (by decide +kernel) (by decide +kernel)
theorem cmX7_init (own : String) (idx : Nat) : CM own idx mX7_init 0 := ⟨⟨by decide +kernel, rfl, by decide⟩, ⟨tw78, tw4⟩, by decide +kernel, by decide +kernel, by decide +kernel⟩
theorem tw77 : Cond.instanceMethod ⟨"RiverIfs$Shore", "<init>", "()V"⟩ ∈ lw_good := lw_t (i := 77) (by decide +kernel) (by decide +kernel)
theorem cX3_20 : CIN RX3 20 mX7_init 0 := ⟨cmX7_init _ _, rfl, rfl, ⟨"RiverIfs", by decide +kernel⟩, tw77⟩
theorem tw179 : Cond.fieldLink "RiverIfs$Reader" 21 "RiverIfs$Reader" "draft" "LRiverIfs$Shore;" ∈ lw_good := lw_t (i := 179) (by decide +kernel) (by decide +kernel)
theorem fX3_21 : FL RX3 21 3 1 := ⟨_, _, _, rfl, by decide, inX3, tw179, rfl⟩
theorem tw180 : Cond.fieldLink "RiverIfs$Reader" 25 "RiverIfs$Reader" "found" "I" ∈ lw_good := lw_t (i := 180) (by decide +kernel) (by decide +kernel)
theorem fX3_25 : FL RX3 25 3 2 := ⟨_, _, _, rfl, by decide, inX3, tw180, rfl⟩
theorem tw181 : Cond.fieldLink "RiverIfs$Reader" 29 "RiverIfs$Reader" "place" "I" ∈ lw_good := lw_t (i := 181) (by decide +kernel) (by decide +kernel)
theorem fX3_29 : FL RX3 29 3 3 := ⟨_, _, _, rfl, by decide, inX3, tw181, rfl⟩
theorem tw663 : Cond.code ⟨"RiverIfs$Shore", "clear", "()V"⟩ prog_9_method_2_code 1 (none) ∈ lw_good := lw_t (i := 663) (by decide +kernel) (by decide +kernel)
theorem cmX7_clear (own : String) (idx : Nat) : CM own idx mX7_clear 0 := ⟨⟨by decide +kernel, rfl, by decide⟩, ⟨tw663, tw4⟩, by decide +kernel, by decide +kernel, by decide +kernel⟩
theorem tw661 : Cond.instanceMethod ⟨"RiverIfs$Shore", "clear", "()V"⟩ ∈ lw_good := lw_t (i := 661) (by decide +kernel) (by decide +kernel)
theorem tw662 : Cond.selects "RiverIfs$Shore" ⟨"RiverIfs$Shore", "clear", "()V"⟩ ⟨"RiverIfs$Shore", "clear", "()V"⟩ ∈ lw_good := lw_t (i := 662) (by decide +kernel) (by decide +kernel)
theorem tw660 : Cond.methodLink "RiverIfs$Reader" 32 ⟨"RiverIfs$Shore", "clear", "()V"⟩ ∈ lw_good := lw_t (i := 660) (by decide +kernel) (by decide +kernel)
theorem cX3_32 : CV RX3 32 mX7_clear 0 7 := ⟨cmX7_clear _ _, _, _, _, rfl, tw660, tw661, tw662⟩
theorem tw678 : Cond.code ⟨"RiverIfs$Tape", "start", "(I)V"⟩ prog_11_method_3_code 2 (none) ∈ lw_good := lw_t (i := 678) (by decide +kernel) (by decide +kernel)
theorem cmX9_start (own : String) (idx : Nat) : CM own idx mX9_start 1 := ⟨⟨by decide +kernel, rfl, by decide⟩, ⟨tw678, tw3⟩, by decide +kernel, by decide +kernel, by decide +kernel⟩
theorem tw676 : Cond.instanceMethod ⟨"RiverIfs$Tape", "start", "(I)V"⟩ ∈ lw_good := lw_t (i := 676) (by decide +kernel) (by decide +kernel)
theorem tw677 : Cond.selects "RiverIfs$Tape" ⟨"RiverIfs$Tape", "start", "(I)V"⟩ ⟨"RiverIfs$Tape", "start", "(I)V"⟩ ∈ lw_good := lw_t (i := 677) (by decide +kernel) (by decide +kernel)
theorem tw675 : Cond.methodLink "RiverIfs$Reader" 35 ⟨"RiverIfs$Tape", "start", "(I)V"⟩ ∈ lw_good := lw_t (i := 675) (by decide +kernel) (by decide +kernel)
theorem cX3_35 : CV RX3 35 mX9_start 1 9 := ⟨cmX9_start _ _, _, _, _, rfl, tw675, tw676, tw677⟩
theorem tw57 : Cond.fieldLink "RiverIfs$Reader" 39 "RiverIfs$Tape" "kind" "I" ∈ lw_good := lw_t (i := 57) (by decide +kernel) (by decide +kernel)
theorem fX3_39 : FL RX3 39 9 6 := ⟨_, _, _, rfl, by decide, inX9, tw57, rfl⟩
theorem tw780 : Cond.code ⟨"RiverIfs$Reader", "readLine", "()Z"⟩ prog_5_method_5_code 1 (some .boolean) ∈ lw_good := lw_t (i := 780) (by decide +kernel) (by decide +kernel)
theorem tw2 : Cond.initialized "RiverIfs$Reader" ∈ lw_good := lw_t (i := 2) (by decide +kernel) (by decide +kernel)
theorem cmX3_readLine (own : String) (idx : Nat) : CM own idx mX3_readLine 0 := ⟨⟨by decide +kernel, rfl, by decide⟩, ⟨tw780, tw2⟩, by decide +kernel, by decide +kernel, by decide +kernel⟩
theorem tw779 : Cond.instanceMethod ⟨"RiverIfs$Reader", "readLine", "()Z"⟩ ∈ lw_good := lw_t (i := 779) (by decide +kernel) (by decide +kernel)
theorem ts10 : Cond.selects "RiverIfs$Reader" ⟨"RiverIfs$Reader", "readLine", "()Z"⟩ ⟨"RiverIfs$Reader", "readLine", "()Z"⟩ ∈ lw_good := lw_s (i := 10) (by decide +kernel) (by decide +kernel)
theorem tw777 : Cond.methodLink "RiverIfs$Reader" 42 ⟨"RiverIfs$Reader", "readLine", "()Z"⟩ ∈ lw_good := lw_t (i := 777) (by decide +kernel) (by decide +kernel)
theorem cX3_42 : CV RX3 42 mX3_readLine 0 3 := ⟨cmX3_readLine _ _, _, _, _, rfl, tw777, tw779, ts10⟩
theorem tw55 : Cond.fieldLink "RiverIfs$Reader" 46 "RiverIfs$Tape" "place" "I" ∈ lw_good := lw_t (i := 55) (by decide +kernel) (by decide +kernel)
theorem fX3_46 : FL RX3 46 9 5 := ⟨_, _, _, rfl, by decide, inX9, tw55, rfl⟩
theorem tw785 : Cond.code ⟨"RiverIfs$Tape", "wordIs", "(Ljava/lang/String;)Z"⟩ prog_11_method_8_code 3 (some .boolean) ∈ lw_good := lw_t (i := 785) (by decide +kernel) (by decide +kernel)
theorem cmX9_wordIs (own : String) (idx : Nat) : CM own idx mX9_wordIs 1 := ⟨⟨by decide +kernel, rfl, by decide⟩, ⟨tw785, tw3⟩, by decide +kernel, by decide +kernel, by decide +kernel⟩
theorem tw783 : Cond.instanceMethod ⟨"RiverIfs$Tape", "wordIs", "(Ljava/lang/String;)Z"⟩ ∈ lw_good := lw_t (i := 783) (by decide +kernel) (by decide +kernel)
theorem tw784 : Cond.selects "RiverIfs$Tape" ⟨"RiverIfs$Tape", "wordIs", "(Ljava/lang/String;)Z"⟩ ⟨"RiverIfs$Tape", "wordIs", "(Ljava/lang/String;)Z"⟩ ∈ lw_good := lw_t (i := 784) (by decide +kernel) (by decide +kernel)
theorem tw782 : Cond.methodLink "RiverIfs$Reader" 49 ⟨"RiverIfs$Tape", "wordIs", "(Ljava/lang/String;)Z"⟩ ∈ lw_good := lw_t (i := 782) (by decide +kernel) (by decide +kernel)
theorem cX3_49 : CV RX3 49 mX9_wordIs 1 9 := ⟨cmX9_wordIs _ _, _, _, _, rfl, tw782, tw783, tw784⟩
theorem tw810 : Cond.code ⟨"RiverIfs$Reader", "readWorth", "()Z"⟩ prog_5_method_6_code 4 (some .boolean) ∈ lw_good := lw_t (i := 810) (by decide +kernel) (by decide +kernel)
theorem cmX3_readWorth (own : String) (idx : Nat) : CM own idx mX3_readWorth 0 := ⟨⟨by decide +kernel, rfl, by decide⟩, ⟨tw810, tw2⟩, by decide +kernel, by decide +kernel, by decide +kernel⟩
theorem tw809 : Cond.instanceMethod ⟨"RiverIfs$Reader", "readWorth", "()Z"⟩ ∈ lw_good := lw_t (i := 809) (by decide +kernel) (by decide +kernel)
theorem ts11 : Cond.selects "RiverIfs$Reader" ⟨"RiverIfs$Reader", "readWorth", "()Z"⟩ ⟨"RiverIfs$Reader", "readWorth", "()Z"⟩ ∈ lw_good := lw_s (i := 11) (by decide +kernel) (by decide +kernel)
theorem tw807 : Cond.methodLink "RiverIfs$Reader" 53 ⟨"RiverIfs$Reader", "readWorth", "()Z"⟩ ∈ lw_good := lw_t (i := 807) (by decide +kernel) (by decide +kernel)
theorem cX3_53 : CV RX3 53 mX3_readWorth 0 3 := ⟨cmX3_readWorth _ _, _, _, _, rfl, tw807, tw809, ts11⟩
theorem tw845 : Cond.code ⟨"RiverIfs$Reader", "readPerson", "()Z"⟩ prog_5_method_7_code 5 (some .boolean) ∈ lw_good := lw_t (i := 845) (by decide +kernel) (by decide +kernel)
theorem cmX3_readPerson (own : String) (idx : Nat) : CM own idx mX3_readPerson 0 := ⟨⟨by decide +kernel, rfl, by decide⟩, ⟨tw845, tw2⟩, by decide +kernel, by decide +kernel, by decide +kernel⟩
theorem tw844 : Cond.instanceMethod ⟨"RiverIfs$Reader", "readPerson", "()Z"⟩ ∈ lw_good := lw_t (i := 844) (by decide +kernel) (by decide +kernel)
theorem ts16 : Cond.selects "RiverIfs$Reader" ⟨"RiverIfs$Reader", "readPerson", "()Z"⟩ ⟨"RiverIfs$Reader", "readPerson", "()Z"⟩ ∈ lw_good := lw_s (i := 16) (by decide +kernel) (by decide +kernel)
theorem tw842 : Cond.methodLink "RiverIfs$Reader" 58 ⟨"RiverIfs$Reader", "readPerson", "()Z"⟩ ∈ lw_good := lw_t (i := 842) (by decide +kernel) (by decide +kernel)
theorem cX3_58 : CV RX3 58 mX3_readPerson 0 3 := ⟨cmX3_readPerson _ _, _, _, _, rfl, tw842, tw844, ts16⟩
theorem tw854 : Cond.code ⟨"RiverIfs$Reader", "readIf", "(Z)Z"⟩ prog_5_method_8_code 5 (some .boolean) ∈ lw_good := lw_t (i := 854) (by decide +kernel) (by decide +kernel)
theorem cmX3_readIf (own : String) (idx : Nat) : CM own idx mX3_readIf 1 := ⟨⟨by decide +kernel, rfl, by decide⟩, ⟨tw854, tw2⟩, by decide +kernel, by decide +kernel, by decide +kernel⟩
theorem tw853 : Cond.instanceMethod ⟨"RiverIfs$Reader", "readIf", "(Z)Z"⟩ ∈ lw_good := lw_t (i := 853) (by decide +kernel) (by decide +kernel)
theorem ts17 : Cond.selects "RiverIfs$Reader" ⟨"RiverIfs$Reader", "readIf", "(Z)Z"⟩ ⟨"RiverIfs$Reader", "readIf", "(Z)Z"⟩ ∈ lw_good := lw_s (i := 17) (by decide +kernel) (by decide +kernel)
theorem tw851 : Cond.methodLink "RiverIfs$Reader" 63 ⟨"RiverIfs$Reader", "readIf", "(Z)Z"⟩ ∈ lw_good := lw_t (i := 851) (by decide +kernel) (by decide +kernel)
theorem cX3_63 : CV RX3 63 mX3_readIf 1 3 := ⟨cmX3_readIf _ _, _, _, _, rfl, tw851, tw853, ts17⟩
theorem tw864 : Cond.code ⟨"RiverIfs$Reader", "readBridge", "()Z"⟩ prog_5_method_9_code 2 (some .boolean) ∈ lw_good := lw_t (i := 864) (by decide +kernel) (by decide +kernel)
theorem cmX3_readBridge (own : String) (idx : Nat) : CM own idx mX3_readBridge 0 := ⟨⟨by decide +kernel, rfl, by decide⟩, ⟨tw864, tw2⟩, by decide +kernel, by decide +kernel, by decide +kernel⟩
theorem tw863 : Cond.instanceMethod ⟨"RiverIfs$Reader", "readBridge", "()Z"⟩ ∈ lw_good := lw_t (i := 863) (by decide +kernel) (by decide +kernel)
theorem ts18 : Cond.selects "RiverIfs$Reader" ⟨"RiverIfs$Reader", "readBridge", "()Z"⟩ ⟨"RiverIfs$Reader", "readBridge", "()Z"⟩ ∈ lw_good := lw_s (i := 18) (by decide +kernel) (by decide +kernel)
theorem tw861 : Cond.methodLink "RiverIfs$Reader" 71 ⟨"RiverIfs$Reader", "readBridge", "()Z"⟩ ∈ lw_good := lw_t (i := 861) (by decide +kernel) (by decide +kernel)
theorem cX3_71 : CV RX3 71 mX3_readBridge 0 3 := ⟨cmX3_readBridge _ _, _, _, _, rfl, tw861, tw863, ts18⟩
theorem tw869 : Cond.code ⟨"RiverIfs$Reader", "readCrosses", "()Z"⟩ prog_5_method_10_code 1 (some .boolean) ∈ lw_good := lw_t (i := 869) (by decide +kernel) (by decide +kernel)
theorem cmX3_readCrosses (own : String) (idx : Nat) : CM own idx mX3_readCrosses 0 := ⟨⟨by decide +kernel, rfl, by decide⟩, ⟨tw869, tw2⟩, by decide +kernel, by decide +kernel, by decide +kernel⟩
theorem tw868 : Cond.instanceMethod ⟨"RiverIfs$Reader", "readCrosses", "()Z"⟩ ∈ lw_good := lw_t (i := 868) (by decide +kernel) (by decide +kernel)
theorem ts19 : Cond.selects "RiverIfs$Reader" ⟨"RiverIfs$Reader", "readCrosses", "()Z"⟩ ⟨"RiverIfs$Reader", "readCrosses", "()Z"⟩ ∈ lw_good := lw_s (i := 19) (by decide +kernel) (by decide +kernel)
theorem tw866 : Cond.methodLink "RiverIfs$Reader" 76 ⟨"RiverIfs$Reader", "readCrosses", "()Z"⟩ ∈ lw_good := lw_t (i := 866) (by decide +kernel) (by decide +kernel)
theorem cX3_76 : CV RX3 76 mX3_readCrosses 0 3 := ⟨cmX3_readCrosses _ _, _, _, _, rfl, tw866, tw868, ts19⟩
theorem tw819 : Cond.code ⟨"RiverIfs$Reader", "refuse", "(I)Z"⟩ prog_5_method_4_code 2 (some .boolean) ∈ lw_good := lw_t (i := 819) (by decide +kernel) (by decide +kernel)
theorem cmX3_refuse (own : String) (idx : Nat) : CM own idx mX3_refuse 1 := ⟨⟨by decide +kernel, rfl, by decide⟩, ⟨tw819, tw2⟩, by decide +kernel, by decide +kernel, by decide +kernel⟩
theorem tw818 : Cond.instanceMethod ⟨"RiverIfs$Reader", "refuse", "(I)Z"⟩ ∈ lw_good := lw_t (i := 818) (by decide +kernel) (by decide +kernel)
theorem ts13 : Cond.selects "RiverIfs$Reader" ⟨"RiverIfs$Reader", "refuse", "(I)Z"⟩ ⟨"RiverIfs$Reader", "refuse", "(I)Z"⟩ ∈ lw_good := lw_s (i := 13) (by decide +kernel) (by decide +kernel)
theorem tw816 : Cond.methodLink "RiverIfs$Reader" 79 ⟨"RiverIfs$Reader", "refuse", "(I)Z"⟩ ∈ lw_good := lw_t (i := 816) (by decide +kernel) (by decide +kernel)
theorem cX3_79 : CV RX3 79 mX3_refuse 1 3 := ⟨cmX3_refuse _ _, _, _, _, rfl, tw816, tw818, ts13⟩
theorem tw683 : Cond.code ⟨"RiverIfs$Tape", "advance", "()V"⟩ prog_11_method_4_code 1 (none) ∈ lw_good := lw_t (i := 683) (by decide +kernel) (by decide +kernel)
theorem cmX9_advance (own : String) (idx : Nat) : CM own idx mX9_advance 0 := ⟨⟨by decide +kernel, rfl, by decide⟩, ⟨tw683, tw3⟩, by decide +kernel, by decide +kernel, by decide +kernel⟩
theorem tw681 : Cond.instanceMethod ⟨"RiverIfs$Tape", "advance", "()V"⟩ ∈ lw_good := lw_t (i := 681) (by decide +kernel) (by decide +kernel)
theorem tw682 : Cond.selects "RiverIfs$Tape" ⟨"RiverIfs$Tape", "advance", "()V"⟩ ⟨"RiverIfs$Tape", "advance", "()V"⟩ ∈ lw_good := lw_t (i := 682) (by decide +kernel) (by decide +kernel)
theorem tw811 : Cond.methodLink "RiverIfs$Reader" 83 ⟨"RiverIfs$Tape", "advance", "()V"⟩ ∈ lw_good := lw_t (i := 811) (by decide +kernel) (by decide +kernel)
theorem cX3_83 : CV RX3 83 mX9_advance 0 9 := ⟨cmX9_advance _ _, _, _, _, rfl, tw811, tw681, tw682⟩
theorem tw815 : Cond.code ⟨"RiverIfs$Reader", "numberWithin", "(II)I"⟩ prog_5_method_12_code 4 (some .int) ∈ lw_good := lw_t (i := 815) (by decide +kernel) (by decide +kernel)
theorem cmX3_numberWithin (own : String) (idx : Nat) : CM own idx mX3_numberWithin 2 := ⟨⟨by decide +kernel, rfl, by decide⟩, ⟨tw815, tw2⟩, by decide +kernel, by decide +kernel, by decide +kernel⟩
theorem tw814 : Cond.instanceMethod ⟨"RiverIfs$Reader", "numberWithin", "(II)I"⟩ ∈ lw_good := lw_t (i := 814) (by decide +kernel) (by decide +kernel)
theorem ts12 : Cond.selects "RiverIfs$Reader" ⟨"RiverIfs$Reader", "numberWithin", "(II)I"⟩ ⟨"RiverIfs$Reader", "numberWithin", "(II)I"⟩ ∈ lw_good := lw_s (i := 12) (by decide +kernel) (by decide +kernel)
theorem tw812 : Cond.methodLink "RiverIfs$Reader" 86 ⟨"RiverIfs$Reader", "numberWithin", "(II)I"⟩ ∈ lw_good := lw_t (i := 812) (by decide +kernel) (by decide +kernel)
theorem cX3_86 : CV RX3 86 mX3_numberWithin 2 3 := ⟨cmX3_numberWithin _ _, _, _, _, rfl, tw812, tw814, ts12⟩
theorem tw148 : Cond.fieldLink "RiverIfs$Reader" 90 "RiverIfs$Shore" "worthsTold" "I" ∈ lw_good := lw_t (i := 148) (by decide +kernel) (by decide +kernel)
theorem fX3_90 : FL RX3 90 7 8 := ⟨_, _, _, rfl, by decide, inX7, tw148, rfl⟩
theorem cX3_93 : CSN RX3 93 mX11_isIn 2 := ⟨cmX11_isIn _ _, ⟨"RiverIfs", by decide +kernel⟩, tw454⟩
theorem tw828 : Cond.code ⟨"RiverIfs$Tape", "signIs", "(C)Z"⟩ prog_11_method_9_code 2 (some .boolean) ∈ lw_good := lw_t (i := 828) (by decide +kernel) (by decide +kernel)
theorem cmX9_signIs (own : String) (idx : Nat) : CM own idx mX9_signIs 1 := ⟨⟨by decide +kernel, rfl, by decide⟩, ⟨tw828, tw3⟩, by decide +kernel, by decide +kernel, by decide +kernel⟩
theorem tw826 : Cond.instanceMethod ⟨"RiverIfs$Tape", "signIs", "(C)Z"⟩ ∈ lw_good := lw_t (i := 826) (by decide +kernel) (by decide +kernel)
theorem tw827 : Cond.selects "RiverIfs$Tape" ⟨"RiverIfs$Tape", "signIs", "(C)Z"⟩ ⟨"RiverIfs$Tape", "signIs", "(C)Z"⟩ ∈ lw_good := lw_t (i := 827) (by decide +kernel) (by decide +kernel)
theorem tw825 : Cond.methodLink "RiverIfs$Reader" 97 ⟨"RiverIfs$Tape", "signIs", "(C)Z"⟩ ∈ lw_good := lw_t (i := 825) (by decide +kernel) (by decide +kernel)
theorem cX3_97 : CV RX3 97 mX9_signIs 1 9 := ⟨cmX9_signIs _ _, _, _, _, rfl, tw825, tw826, tw827⟩
theorem tw832 : Cond.code ⟨"RiverIfs$Reader", "takeWithin", "(II)I"⟩ prog_5_method_13_code 4 (some .int) ∈ lw_good := lw_t (i := 832) (by decide +kernel) (by decide +kernel)
theorem cmX3_takeWithin (own : String) (idx : Nat) : CM own idx mX3_takeWithin 2 := ⟨⟨by decide +kernel, rfl, by decide⟩, ⟨tw832, tw2⟩, by decide +kernel, by decide +kernel, by decide +kernel⟩
theorem tw831 : Cond.instanceMethod ⟨"RiverIfs$Reader", "takeWithin", "(II)I"⟩ ∈ lw_good := lw_t (i := 831) (by decide +kernel) (by decide +kernel)
theorem ts14 : Cond.selects "RiverIfs$Reader" ⟨"RiverIfs$Reader", "takeWithin", "(II)I"⟩ ⟨"RiverIfs$Reader", "takeWithin", "(II)I"⟩ ∈ lw_good := lw_s (i := 14) (by decide +kernel) (by decide +kernel)
theorem tw829 : Cond.methodLink "RiverIfs$Reader" 101 ⟨"RiverIfs$Reader", "takeWithin", "(II)I"⟩ ∈ lw_good := lw_t (i := 829) (by decide +kernel) (by decide +kernel)
theorem cX3_101 : CV RX3 101 mX3_takeWithin 2 3 := ⟨cmX3_takeWithin _ _, _, _, _, rfl, tw829, tw831, ts14⟩
theorem tw836 : Cond.code ⟨"RiverIfs$Shore", "tellWorth", "(II)V"⟩ prog_9_method_3_code 3 (none) ∈ lw_good := lw_t (i := 836) (by decide +kernel) (by decide +kernel)
theorem cmX7_tellWorth (own : String) (idx : Nat) : CM own idx mX7_tellWorth 2 := ⟨⟨by decide +kernel, rfl, by decide⟩, ⟨tw836, tw4⟩, by decide +kernel, by decide +kernel, by decide +kernel⟩
theorem tw834 : Cond.instanceMethod ⟨"RiverIfs$Shore", "tellWorth", "(II)V"⟩ ∈ lw_good := lw_t (i := 834) (by decide +kernel) (by decide +kernel)
theorem tw835 : Cond.selects "RiverIfs$Shore" ⟨"RiverIfs$Shore", "tellWorth", "(II)V"⟩ ⟨"RiverIfs$Shore", "tellWorth", "(II)V"⟩ ∈ lw_good := lw_t (i := 835) (by decide +kernel) (by decide +kernel)
theorem tw833 : Cond.methodLink "RiverIfs$Reader" 104 ⟨"RiverIfs$Shore", "tellWorth", "(II)V"⟩ ∈ lw_good := lw_t (i := 833) (by decide +kernel) (by decide +kernel)
theorem cX3_104 : CV RX3 104 mX7_tellWorth 2 7 := ⟨cmX7_tellWorth _ _, _, _, _, rfl, tw833, tw834, tw835⟩
theorem tw840 : Cond.code ⟨"RiverIfs$Reader", "takeSign", "(C)Z"⟩ prog_5_method_11_code 2 (some .boolean) ∈ lw_good := lw_t (i := 840) (by decide +kernel) (by decide +kernel)
theorem cmX3_takeSign (own : String) (idx : Nat) : CM own idx mX3_takeSign 1 := ⟨⟨by decide +kernel, rfl, by decide⟩, ⟨tw840, tw2⟩, by decide +kernel, by decide +kernel, by decide +kernel⟩
theorem tw839 : Cond.instanceMethod ⟨"RiverIfs$Reader", "takeSign", "(C)Z"⟩ ∈ lw_good := lw_t (i := 839) (by decide +kernel) (by decide +kernel)
theorem ts15 : Cond.selects "RiverIfs$Reader" ⟨"RiverIfs$Reader", "takeSign", "(C)Z"⟩ ⟨"RiverIfs$Reader", "takeSign", "(C)Z"⟩ ∈ lw_good := lw_s (i := 15) (by decide +kernel) (by decide +kernel)
theorem tw837 : Cond.methodLink "RiverIfs$Reader" 108 ⟨"RiverIfs$Reader", "takeSign", "(C)Z"⟩ ∈ lw_good := lw_t (i := 837) (by decide +kernel) (by decide +kernel)
theorem cX3_108 : CV RX3 108 mX3_takeSign 1 3 := ⟨cmX3_takeSign _ _, _, _, _, rfl, tw837, tw839, ts15⟩
theorem tw146 : Cond.fieldLink "RiverIfs$Reader" 111 "RiverIfs$Shore" "people" "I" ∈ lw_good := lw_t (i := 146) (by decide +kernel) (by decide +kernel)
theorem fX3_111 : FL RX3 111 7 7 := ⟨_, _, _, rfl, by decide, inX7, tw146, rfl⟩
theorem tw849 : Cond.code ⟨"RiverIfs$Shore", "addPerson", "(IIII)V"⟩ prog_9_method_4_code 5 (none) ∈ lw_good := lw_t (i := 849) (by decide +kernel) (by decide +kernel)
theorem cmX7_addPerson (own : String) (idx : Nat) : CM own idx mX7_addPerson 4 := ⟨⟨by decide +kernel, rfl, by decide⟩, ⟨tw849, tw4⟩, by decide +kernel, by decide +kernel, by decide +kernel⟩
theorem tw847 : Cond.instanceMethod ⟨"RiverIfs$Shore", "addPerson", "(IIII)V"⟩ ∈ lw_good := lw_t (i := 847) (by decide +kernel) (by decide +kernel)
theorem tw848 : Cond.selects "RiverIfs$Shore" ⟨"RiverIfs$Shore", "addPerson", "(IIII)V"⟩ ⟨"RiverIfs$Shore", "addPerson", "(IIII)V"⟩ ∈ lw_good := lw_t (i := 848) (by decide +kernel) (by decide +kernel)
theorem tw846 : Cond.methodLink "RiverIfs$Reader" 114 ⟨"RiverIfs$Shore", "addPerson", "(IIII)V"⟩ ∈ lw_good := lw_t (i := 846) (by decide +kernel) (by decide +kernel)
theorem cX3_114 : CV RX3 114 mX7_addPerson 4 7 := ⟨cmX7_addPerson _ _, _, _, _, rfl, tw846, tw847, tw848⟩
theorem tw131 : Cond.fieldLink "RiverIfs$Reader" 118 "RiverIfs$Shore" "ifs" "LRiverIfs$Ifs;" ∈ lw_good := lw_t (i := 131) (by decide +kernel) (by decide +kernel)
theorem fX3_118 : FL RX3 118 7 1 := ⟨_, _, _, rfl, by decide, inX7, tw131, rfl⟩
theorem tw98 : Cond.fieldLink "RiverIfs$Reader" 122 "RiverIfs$Ifs" "size" "I" ∈ lw_good := lw_t (i := 98) (by decide +kernel) (by decide +kernel)
theorem fX3_122 : FL RX3 122 1 4 := ⟨_, _, _, rfl, by decide, inX1, tw98, rfl⟩
theorem tw858 : Cond.code ⟨"RiverIfs$Ifs", "add", "(IIIZ)V"⟩ prog_3_method_3_code 5 (none) ∈ lw_good := lw_t (i := 858) (by decide +kernel) (by decide +kernel)
theorem cmX1_add (own : String) (idx : Nat) : CM own idx mX1_add 4 := ⟨⟨by decide +kernel, rfl, by decide⟩, ⟨tw858, tw5⟩, by decide +kernel, by decide +kernel, by decide +kernel⟩
theorem tw856 : Cond.instanceMethod ⟨"RiverIfs$Ifs", "add", "(IIIZ)V"⟩ ∈ lw_good := lw_t (i := 856) (by decide +kernel) (by decide +kernel)
theorem tw857 : Cond.selects "RiverIfs$Ifs" ⟨"RiverIfs$Ifs", "add", "(IIIZ)V"⟩ ⟨"RiverIfs$Ifs", "add", "(IIIZ)V"⟩ ∈ lw_good := lw_t (i := 857) (by decide +kernel) (by decide +kernel)
theorem tw855 : Cond.methodLink "RiverIfs$Reader" 127 ⟨"RiverIfs$Ifs", "add", "(IIIZ)V"⟩ ∈ lw_good := lw_t (i := 855) (by decide +kernel) (by decide +kernel)
theorem cX3_127 : CV RX3 127 mX1_add 4 1 := ⟨cmX1_add _ _, _, _, _, rfl, tw855, tw856, tw857⟩
theorem tw153 : Cond.fieldLink "RiverIfs$Reader" 131 "RiverIfs$Shore" "bridgeTold" "Z" ∈ lw_good := lw_t (i := 153) (by decide +kernel) (by decide +kernel)
theorem fX3_131 : FL RX3 131 7 10 := ⟨_, _, _, rfl, by decide, inX7, tw153, rfl⟩
theorem tw151 : Cond.fieldLink "RiverIfs$Reader" 135 "RiverIfs$Shore" "bears" "I" ∈ lw_good := lw_t (i := 151) (by decide +kernel) (by decide +kernel)
theorem fX3_135 : FL RX3 135 7 9 := ⟨_, _, _, rfl, by decide, inX7, tw151, rfl⟩
theorem tw133 : Cond.fieldLink "RiverIfs$Reader" 138 "RiverIfs$Shore" "rule" "LRiverIfs$Rule;" ∈ lw_good := lw_t (i := 133) (by decide +kernel) (by decide +kernel)
theorem fX3_138 : FL RX3 138 7 2 := ⟨_, _, _, rfl, by decide, inX7, tw133, rfl⟩
theorem tw480 : Cond.code ⟨"RiverIfs$Rule", "isTold", "()Z"⟩ prog_6_method_3_code 1 (some .boolean) ∈ lw_good := lw_t (i := 480) (by decide +kernel) (by decide +kernel)
theorem tw6 : Cond.initialized "RiverIfs$Rule" ∈ lw_good := lw_t (i := 6) (by decide +kernel) (by decide +kernel)
theorem cmX4_isTold (own : String) (idx : Nat) : CM own idx mX4_isTold 0 := ⟨⟨by decide +kernel, rfl, by decide⟩, ⟨tw480, tw6⟩, by decide +kernel, by decide +kernel, by decide +kernel⟩
theorem tw478 : Cond.instanceMethod ⟨"RiverIfs$Rule", "isTold", "()Z"⟩ ∈ lw_good := lw_t (i := 478) (by decide +kernel) (by decide +kernel)
theorem tw479 : Cond.selects "RiverIfs$Rule" ⟨"RiverIfs$Rule", "isTold", "()Z"⟩ ⟨"RiverIfs$Rule", "isTold", "()Z"⟩ ∈ lw_good := lw_t (i := 479) (by decide +kernel) (by decide +kernel)
theorem tw870 : Cond.methodLink "RiverIfs$Reader" 142 ⟨"RiverIfs$Rule", "isTold", "()Z"⟩ ∈ lw_good := lw_t (i := 870) (by decide +kernel) (by decide +kernel)
theorem cX3_142 : CV RX3 142 mX4_isTold 0 4 := ⟨cmX4_isTold _ _, _, _, _, rfl, tw870, tw478, tw479⟩
theorem tw874 : Cond.code ⟨"RiverIfs$Reader", "readExpr", "(I)Z"⟩ prog_5_method_14_code 2 (some .boolean) ∈ lw_good := lw_t (i := 874) (by decide +kernel) (by decide +kernel)
theorem cmX3_readExpr (own : String) (idx : Nat) : CM own idx mX3_readExpr 1 := ⟨⟨by decide +kernel, rfl, by decide⟩, ⟨tw874, tw2⟩, by decide +kernel, by decide +kernel, by decide +kernel⟩
theorem tw873 : Cond.instanceMethod ⟨"RiverIfs$Reader", "readExpr", "(I)Z"⟩ ∈ lw_good := lw_t (i := 873) (by decide +kernel) (by decide +kernel)
theorem ts20 : Cond.selects "RiverIfs$Reader" ⟨"RiverIfs$Reader", "readExpr", "(I)Z"⟩ ⟨"RiverIfs$Reader", "readExpr", "(I)Z"⟩ ∈ lw_good := lw_s (i := 20) (by decide +kernel) (by decide +kernel)
theorem tw871 : Cond.methodLink "RiverIfs$Reader" 147 ⟨"RiverIfs$Reader", "readExpr", "(I)Z"⟩ ∈ lw_good := lw_t (i := 871) (by decide +kernel) (by decide +kernel)
theorem cX3_147 : CV RX3 147 mX3_readExpr 1 3 := ⟨cmX3_readExpr _ _, _, _, _, rfl, tw871, tw873, ts20⟩
theorem tw823 : Cond.code ⟨"RiverIfs$Tape", "numberHere", "()I"⟩ prog_11_method_10_code 3 (some .int) ∈ lw_good := lw_t (i := 823) (by decide +kernel) (by decide +kernel)
theorem cmX9_numberHere (own : String) (idx : Nat) : CM own idx mX9_numberHere 0 := ⟨⟨by decide +kernel, rfl, by decide⟩, ⟨tw823, tw3⟩, by decide +kernel, by decide +kernel, by decide +kernel⟩
theorem tw821 : Cond.instanceMethod ⟨"RiverIfs$Tape", "numberHere", "()I"⟩ ∈ lw_good := lw_t (i := 821) (by decide +kernel) (by decide +kernel)
theorem tw822 : Cond.selects "RiverIfs$Tape" ⟨"RiverIfs$Tape", "numberHere", "()I"⟩ ⟨"RiverIfs$Tape", "numberHere", "()I"⟩ ∈ lw_good := lw_t (i := 822) (by decide +kernel) (by decide +kernel)
theorem tw820 : Cond.methodLink "RiverIfs$Reader" 150 ⟨"RiverIfs$Tape", "numberHere", "()I"⟩ ∈ lw_good := lw_t (i := 820) (by decide +kernel) (by decide +kernel)
theorem cX3_150 : CV RX3 150 mX9_numberHere 0 9 := ⟨cmX9_numberHere _ _, _, _, _, rfl, tw820, tw821, tw822⟩
theorem tw878 : Cond.code ⟨"RiverIfs$Reader", "startsSomething", "()Z"⟩ prog_5_method_15_code 1 (some .boolean) ∈ lw_good := lw_t (i := 878) (by decide +kernel) (by decide +kernel)
theorem cmX3_startsSomething (own : String) (idx : Nat) : CM own idx mX3_startsSomething 0 := ⟨⟨by decide +kernel, rfl, by decide⟩, ⟨tw878, tw2⟩, by decide +kernel, by decide +kernel, by decide +kernel⟩
theorem tw877 : Cond.instanceMethod ⟨"RiverIfs$Reader", "startsSomething", "()Z"⟩ ∈ lw_good := lw_t (i := 877) (by decide +kernel) (by decide +kernel)
theorem ts21 : Cond.selects "RiverIfs$Reader" ⟨"RiverIfs$Reader", "startsSomething", "()Z"⟩ ⟨"RiverIfs$Reader", "startsSomething", "()Z"⟩ ∈ lw_good := lw_s (i := 21) (by decide +kernel) (by decide +kernel)
theorem tw875 : Cond.methodLink "RiverIfs$Reader" 154 ⟨"RiverIfs$Reader", "startsSomething", "()Z"⟩ ∈ lw_good := lw_t (i := 875) (by decide +kernel) (by decide +kernel)
theorem cX3_154 : CV RX3 154 mX3_startsSomething 0 3 := ⟨cmX3_startsSomething _ _, _, _, _, rfl, tw875, tw877, ts21⟩
theorem tw882 : Cond.code ⟨"RiverIfs$Reader", "readRow", "(II)Z"⟩ prog_5_method_16_code 7 (some .boolean) ∈ lw_good := lw_t (i := 882) (by decide +kernel) (by decide +kernel)
theorem cmX3_readRow (own : String) (idx : Nat) : CM own idx mX3_readRow 2 := ⟨⟨by decide +kernel, rfl, by decide⟩, ⟨tw882, tw2⟩, by decide +kernel, by decide +kernel, by decide +kernel⟩
theorem tw881 : Cond.instanceMethod ⟨"RiverIfs$Reader", "readRow", "(II)Z"⟩ ∈ lw_good := lw_t (i := 881) (by decide +kernel) (by decide +kernel)
theorem ts22 : Cond.selects "RiverIfs$Reader" ⟨"RiverIfs$Reader", "readRow", "(II)Z"⟩ ⟨"RiverIfs$Reader", "readRow", "(II)Z"⟩ ∈ lw_good := lw_s (i := 22) (by decide +kernel) (by decide +kernel)
theorem tw879 : Cond.methodLink "RiverIfs$Reader" 157 ⟨"RiverIfs$Reader", "readRow", "(II)Z"⟩ ∈ lw_good := lw_t (i := 879) (by decide +kernel) (by decide +kernel)
theorem cX3_157 : CV RX3 157 mX3_readRow 2 3 := ⟨cmX3_readRow _ _, _, _, _, rfl, tw879, tw881, ts22⟩
theorem tw886 : Cond.code ⟨"RiverIfs$Reader", "readPart", "(I)Z"⟩ prog_5_method_20_code 3 (some .boolean) ∈ lw_good := lw_t (i := 886) (by decide +kernel) (by decide +kernel)
theorem cmX3_readPart (own : String) (idx : Nat) : CM own idx mX3_readPart 1 := ⟨⟨by decide +kernel, rfl, by decide⟩, ⟨tw886, tw2⟩, by decide +kernel, by decide +kernel, by decide +kernel⟩
theorem tw885 : Cond.instanceMethod ⟨"RiverIfs$Reader", "readPart", "(I)Z"⟩ ∈ lw_good := lw_t (i := 885) (by decide +kernel) (by decide +kernel)
theorem ts23 : Cond.selects "RiverIfs$Reader" ⟨"RiverIfs$Reader", "readPart", "(I)Z"⟩ ⟨"RiverIfs$Reader", "readPart", "(I)Z"⟩ ∈ lw_good := lw_s (i := 23) (by decide +kernel) (by decide +kernel)
theorem tw883 : Cond.methodLink "RiverIfs$Reader" 160 ⟨"RiverIfs$Reader", "readPart", "(I)Z"⟩ ∈ lw_good := lw_t (i := 883) (by decide +kernel) (by decide +kernel)
theorem cX3_160 : CV RX3 160 mX3_readPart 1 3 := ⟨cmX3_readPart _ _, _, _, _, rfl, tw883, tw885, ts23⟩
theorem tw909 : Cond.code ⟨"RiverIfs$Reader", "takeNots", "()I"⟩ prog_5_method_17_code 2 (some .int) ∈ lw_good := lw_t (i := 909) (by decide +kernel) (by decide +kernel)
theorem cmX3_takeNots (own : String) (idx : Nat) : CM own idx mX3_takeNots 0 := ⟨⟨by decide +kernel, rfl, by decide⟩, ⟨tw909, tw2⟩, by decide +kernel, by decide +kernel, by decide +kernel⟩
theorem tw908 : Cond.instanceMethod ⟨"RiverIfs$Reader", "takeNots", "()I"⟩ ∈ lw_good := lw_t (i := 908) (by decide +kernel) (by decide +kernel)
theorem ts26 : Cond.selects "RiverIfs$Reader" ⟨"RiverIfs$Reader", "takeNots", "()I"⟩ ⟨"RiverIfs$Reader", "takeNots", "()I"⟩ ∈ lw_good := lw_s (i := 26) (by decide +kernel) (by decide +kernel)
theorem tw906 : Cond.methodLink "RiverIfs$Reader" 163 ⟨"RiverIfs$Reader", "takeNots", "()I"⟩ ∈ lw_good := lw_t (i := 906) (by decide +kernel) (by decide +kernel)
theorem cX3_163 : CV RX3 163 mX3_takeNots 0 3 := ⟨cmX3_takeNots _ _, _, _, _, rfl, tw906, tw908, ts26⟩
theorem tw914 : Cond.code ⟨"RiverIfs$Reader", "operatorHere", "(I)I"⟩ prog_5_method_18_code 2 (some .int) ∈ lw_good := lw_t (i := 914) (by decide +kernel) (by decide +kernel)
theorem cmX3_operatorHere (own : String) (idx : Nat) : CM own idx mX3_operatorHere 1 := ⟨⟨by decide +kernel, rfl, by decide⟩, ⟨tw914, tw2⟩, by decide +kernel, by decide +kernel, by decide +kernel⟩
theorem tw913 : Cond.instanceMethod ⟨"RiverIfs$Reader", "operatorHere", "(I)I"⟩ ∈ lw_good := lw_t (i := 913) (by decide +kernel) (by decide +kernel)
theorem ts27 : Cond.selects "RiverIfs$Reader" ⟨"RiverIfs$Reader", "operatorHere", "(I)I"⟩ ⟨"RiverIfs$Reader", "operatorHere", "(I)I"⟩ ∈ lw_good := lw_s (i := 27) (by decide +kernel) (by decide +kernel)
theorem tw911 : Cond.methodLink "RiverIfs$Reader" 166 ⟨"RiverIfs$Reader", "operatorHere", "(I)I"⟩ ∈ lw_good := lw_t (i := 911) (by decide +kernel) (by decide +kernel)
theorem cX3_166 : CV RX3 166 mX3_operatorHere 1 3 := ⟨cmX3_operatorHere _ _, _, _, _, rfl, tw911, tw913, ts27⟩
theorem tw894 : Cond.code ⟨"RiverIfs$Rule", "add", "(I)V"⟩ prog_6_method_4_code 2 (none) ∈ lw_good := lw_t (i := 894) (by decide +kernel) (by decide +kernel)
theorem cmX4_add (own : String) (idx : Nat) : CM own idx mX4_add 1 := ⟨⟨by decide +kernel, rfl, by decide⟩, ⟨tw894, tw6⟩, by decide +kernel, by decide +kernel, by decide +kernel⟩
theorem tw892 : Cond.instanceMethod ⟨"RiverIfs$Rule", "add", "(I)V"⟩ ∈ lw_good := lw_t (i := 892) (by decide +kernel) (by decide +kernel)
theorem tw893 : Cond.selects "RiverIfs$Rule" ⟨"RiverIfs$Rule", "add", "(I)V"⟩ ⟨"RiverIfs$Rule", "add", "(I)V"⟩ ∈ lw_good := lw_t (i := 893) (by decide +kernel) (by decide +kernel)
theorem tw891 : Cond.methodLink "RiverIfs$Reader" 170 ⟨"RiverIfs$Rule", "add", "(I)V"⟩ ∈ lw_good := lw_t (i := 891) (by decide +kernel) (by decide +kernel)
theorem cX3_170 : CV RX3 170 mX4_add 1 4 := ⟨cmX4_add _ _, _, _, _, rfl, tw891, tw892, tw893⟩
theorem tw920 : Cond.code ⟨"RiverIfs$Reader", "signHere", "(CICI)I"⟩ prog_5_method_19_code 5 (some .int) ∈ lw_good := lw_t (i := 920) (by decide +kernel) (by decide +kernel)
theorem cmX3_signHere (own : String) (idx : Nat) : CM own idx mX3_signHere 4 := ⟨⟨by decide +kernel, rfl, by decide⟩, ⟨tw920, tw2⟩, by decide +kernel, by decide +kernel, by decide +kernel⟩
theorem tw919 : Cond.instanceMethod ⟨"RiverIfs$Reader", "signHere", "(CICI)I"⟩ ∈ lw_good := lw_t (i := 919) (by decide +kernel) (by decide +kernel)
theorem ts28 : Cond.selects "RiverIfs$Reader" ⟨"RiverIfs$Reader", "signHere", "(CICI)I"⟩ ⟨"RiverIfs$Reader", "signHere", "(CICI)I"⟩ ∈ lw_good := lw_s (i := 28) (by decide +kernel) (by decide +kernel)
theorem tw917 : Cond.methodLink "RiverIfs$Reader" 178 ⟨"RiverIfs$Reader", "signHere", "(CICI)I"⟩ ∈ lw_good := lw_t (i := 917) (by decide +kernel) (by decide +kernel)
theorem cX3_178 : CV RX3 178 mX3_signHere 4 3 := ⟨cmX3_signHere _ _, _, _, _, rfl, tw917, tw919, ts28⟩
theorem tw890 : Cond.code ⟨"RiverIfs$Reader", "putPart", "(I)Z"⟩ prog_5_method_21_code 2 (some .boolean) ∈ lw_good := lw_t (i := 890) (by decide +kernel) (by decide +kernel)
theorem cmX3_putPart (own : String) (idx : Nat) : CM own idx mX3_putPart 1 := ⟨⟨by decide +kernel, rfl, by decide⟩, ⟨tw890, tw2⟩, by decide +kernel, by decide +kernel, by decide +kernel⟩
theorem tw889 : Cond.instanceMethod ⟨"RiverIfs$Reader", "putPart", "(I)Z"⟩ ∈ lw_good := lw_t (i := 889) (by decide +kernel) (by decide +kernel)
theorem ts24 : Cond.selects "RiverIfs$Reader" ⟨"RiverIfs$Reader", "putPart", "(I)Z"⟩ ⟨"RiverIfs$Reader", "putPart", "(I)Z"⟩ ∈ lw_good := lw_s (i := 24) (by decide +kernel) (by decide +kernel)
theorem tw887 : Cond.methodLink "RiverIfs$Reader" 182 ⟨"RiverIfs$Reader", "putPart", "(I)Z"⟩ ∈ lw_good := lw_t (i := 887) (by decide +kernel) (by decide +kernel)
theorem cX3_182 : CV RX3 182 mX3_putPart 1 3 := ⟨cmX3_putPart _ _, _, _, _, rfl, tw887, tw889, ts24⟩
theorem tw898 : Cond.code ⟨"RiverIfs$Reader", "valueHere", "()I"⟩ prog_5_method_22_code 1 (some .int) ∈ lw_good := lw_t (i := 898) (by decide +kernel) (by decide +kernel)
theorem cmX3_valueHere (own : String) (idx : Nat) : CM own idx mX3_valueHere 0 := ⟨⟨by decide +kernel, rfl, by decide⟩, ⟨tw898, tw2⟩, by decide +kernel, by decide +kernel, by decide +kernel⟩
theorem tw897 : Cond.instanceMethod ⟨"RiverIfs$Reader", "valueHere", "()I"⟩ ∈ lw_good := lw_t (i := 897) (by decide +kernel) (by decide +kernel)
theorem ts25 : Cond.selects "RiverIfs$Reader" ⟨"RiverIfs$Reader", "valueHere", "()I"⟩ ⟨"RiverIfs$Reader", "valueHere", "()I"⟩ ∈ lw_good := lw_s (i := 25) (by decide +kernel) (by decide +kernel)
theorem tw895 : Cond.methodLink "RiverIfs$Reader" 185 ⟨"RiverIfs$Reader", "valueHere", "()I"⟩ ∈ lw_good := lw_t (i := 895) (by decide +kernel) (by decide +kernel)
theorem cX3_185 : CV RX3 185 mX3_valueHere 0 3 := ⟨cmX3_valueHere _ _, _, _, _, rfl, tw895, tw897, ts25⟩
theorem tw116 : Cond.methodLink "RiverIfs$Rule" 3 ⟨"java/lang/Object", "<init>", "()V"⟩ ∈ lw_good := lw_t (i := 116) (by decide +kernel) (by decide +kernel)
theorem cX4_3 : Cond.methodLink RX4 3 Lib.objectInit ∈ lw_good := tw116
theorem tw117 : Cond.fieldLink "RiverIfs$Rule" 9 "RiverIfs$Rule" "code" "[I" ∈ lw_good := lw_t (i := 117) (by decide +kernel) (by decide +kernel)
theorem fX4_9 : FL RX4 9 4 0 := ⟨_, _, _, rfl, by decide, inX4, tw117, rfl⟩
theorem tw118 : Cond.fieldLink "RiverIfs$Rule" 15 "RiverIfs$Rule" "stack" "[I" ∈ lw_good := lw_t (i := 118) (by decide +kernel) (by decide +kernel)
theorem fX4_15 : FL RX4 15 4 1 := ⟨_, _, _, rfl, by decide, inX4, tw118, rfl⟩
theorem tw119 : Cond.fieldLink "RiverIfs$Rule" 18 "RiverIfs$Rule" "size" "I" ∈ lw_good := lw_t (i := 119) (by decide +kernel) (by decide +kernel)
theorem fX4_18 : FL RX4 18 4 2 := ⟨_, _, _, rfl, by decide, inX4, tw119, rfl⟩
theorem tw488 : Cond.code ⟨"RiverIfs$Rule", "applied", "(III)I"⟩ prog_6_method_6_code 3 (some .int) ∈ lw_good := lw_t (i := 488) (by decide +kernel) (by decide +kernel)
theorem cmX4_applied (own : String) (idx : Nat) : CM own idx mX4_applied 3 := ⟨⟨by decide +kernel, rfl, by decide⟩, ⟨tw488, tw6⟩, by decide +kernel, by decide +kernel, by decide +kernel⟩
theorem tw487 : Cond.static ⟨"RiverIfs$Rule", "applied", "(III)I"⟩ ∈ lw_good := lw_t (i := 487) (by decide +kernel) (by decide +kernel)
theorem tw486 : Cond.methodLink "RiverIfs$Rule" 22 ⟨"RiverIfs$Rule", "applied", "(III)I"⟩ ∈ lw_good := lw_t (i := 486) (by decide +kernel) (by decide +kernel)
theorem cX4_22 : CS RX4 22 mX4_applied 3 := ⟨cmX4_applied _ _, tw486, tw487⟩
theorem tw263 : Cond.methodLink "RiverIfs$Seen" 3 ⟨"java/lang/Object", "<init>", "()V"⟩ ∈ lw_good := lw_t (i := 263) (by decide +kernel) (by decide +kernel)
theorem cX5_3 : Cond.methodLink RX5 3 Lib.objectInit ∈ lw_good := tw263
theorem tw264 : Cond.fieldLink "RiverIfs$Seen" 9 "RiverIfs$Seen" "people" "[I" ∈ lw_good := lw_t (i := 264) (by decide +kernel) (by decide +kernel)
theorem fX5_9 : FL RX5 9 5 0 := ⟨_, _, _, rfl, by decide, inX5, tw264, rfl⟩
theorem tw265 : Cond.fieldLink "RiverIfs$Seen" 15 "RiverIfs$Seen" "things" "[I" ∈ lw_good := lw_t (i := 265) (by decide +kernel) (by decide +kernel)
theorem fX5_15 : FL RX5 15 5 1 := ⟨_, _, _, rfl, by decide, inX5, tw265, rfl⟩
theorem tw266 : Cond.fieldLink "RiverIfs$Seen" 18 "RiverIfs$Seen" "had" "I" ∈ lw_good := lw_t (i := 266) (by decide +kernel) (by decide +kernel)
theorem fX5_18 : FL RX5 18 5 2 := ⟨_, _, _, rfl, by decide, inX5, tw266, rfl⟩
theorem tw267 : Cond.fieldLink "RiverIfs$Seen" 22 "RiverIfs$Seen" "size" "I" ∈ lw_good := lw_t (i := 267) (by decide +kernel) (by decide +kernel)
theorem fX5_22 : FL RX5 22 5 3 := ⟨_, _, _, rfl, by decide, inX5, tw267, rfl⟩
theorem cX5_25 : CSN RX5 25 mX11_isIn 2 := ⟨cmX11_isIn _ _, ⟨"RiverIfs", by decide +kernel⟩, tw454⟩
theorem tw573 : Cond.methodLink "RiverIfs$Seen" 29 ⟨"java/lang/System", "arraycopy", "(Ljava/lang/Object;ILjava/lang/Object;II)V"⟩ ∈ lw_good := lw_t (i := 573) (by decide +kernel) (by decide +kernel)
theorem cX5_29 : Cond.methodLink RX5 29 arraycopyName ∈ lw_good := tw573
theorem tw316 : Cond.methodLink "RiverIfs$Sets" 3 ⟨"java/lang/Object", "<init>", "()V"⟩ ∈ lw_good := lw_t (i := 316) (by decide +kernel) (by decide +kernel)
theorem cX6_3 : Cond.methodLink RX6 3 Lib.objectInit ∈ lw_good := tw316
theorem tw317 : Cond.fieldLink "RiverIfs$Sets" 9 "RiverIfs$Sets" "all" "[I" ∈ lw_good := lw_t (i := 317) (by decide +kernel) (by decide +kernel)
theorem fX6_9 : FL RX6 9 6 0 := ⟨_, _, _, rfl, by decide, inX6, tw317, rfl⟩
theorem tw318 : Cond.fieldLink "RiverIfs$Sets" 15 "RiverIfs$Sets" "reached" "[I" ∈ lw_good := lw_t (i := 318) (by decide +kernel) (by decide +kernel)
theorem fX6_15 : FL RX6 15 6 1 := ⟨_, _, _, rfl, by decide, inX6, tw318, rfl⟩
theorem tw950 : Cond.methodLink "RiverIfs$Sets" 18 ⟨"RiverIfs$Ifs", "firstBringing", "(III)I"⟩ ∈ lw_good := lw_t (i := 950) (by decide +kernel) (by decide +kernel)
theorem cX6_18 : CV RX6 18 mX1_firstBringing 3 1 := ⟨cmX1_firstBringing _ _, _, _, _, rfl, tw950, tw450, tw451⟩
theorem tw91 : Cond.fieldLink "RiverIfs$Sets" 24 "RiverIfs$Ifs" "gives" "[I" ∈ lw_good := lw_t (i := 91) (by decide +kernel) (by decide +kernel)
theorem fX6_24 : FL RX6 24 1 2 := ⟨_, _, _, rfl, by decide, inX1, tw91, rfl⟩
theorem tw949 : Cond.code ⟨"RiverIfs$Sets", "fill", "(LRiverIfs$Ifs;I)V"⟩ prog_8_method_2_code 5 (none) ∈ lw_good := lw_t (i := 949) (by decide +kernel) (by decide +kernel)
theorem tw11 : Cond.initialized "RiverIfs$Sets" ∈ lw_good := lw_t (i := 11) (by decide +kernel) (by decide +kernel)
theorem cmX6_fill (own : String) (idx : Nat) : CM own idx mX6_fill 2 := ⟨⟨by decide +kernel, rfl, by decide⟩, ⟨tw949, tw11⟩, by decide +kernel, by decide +kernel, by decide +kernel⟩
theorem tw948 : Cond.instanceMethod ⟨"RiverIfs$Sets", "fill", "(LRiverIfs$Ifs;I)V"⟩ ∈ lw_good := lw_t (i := 948) (by decide +kernel) (by decide +kernel)
theorem ts29 : Cond.selects "RiverIfs$Sets" ⟨"RiverIfs$Sets", "fill", "(LRiverIfs$Ifs;I)V"⟩ ⟨"RiverIfs$Sets", "fill", "(LRiverIfs$Ifs;I)V"⟩ ∈ lw_good := lw_s (i := 29) (by decide +kernel) (by decide +kernel)
theorem tw946 : Cond.methodLink "RiverIfs$Sets" 27 ⟨"RiverIfs$Sets", "fill", "(LRiverIfs$Ifs;I)V"⟩ ∈ lw_good := lw_t (i := 946) (by decide +kernel) (by decide +kernel)
theorem cX6_27 : CV RX6 27 mX6_fill 2 6 := ⟨cmX6_fill _ _, _, _, _, rfl, tw946, tw948, ts29⟩
theorem cX6_31 : CSN RX6 31 mX11_isIn 2 := ⟨cmX11_isIn _ _, ⟨"RiverIfs", by decide +kernel⟩, tw454⟩
theorem tw96 : Cond.fieldLink "RiverIfs$Sets" 35 "RiverIfs$Ifs" "size" "I" ∈ lw_good := lw_t (i := 96) (by decide +kernel) (by decide +kernel)
theorem fX6_35 : FL RX6 35 1 4 := ⟨_, _, _, rfl, by decide, inX1, tw96, rfl⟩
theorem tw666 : Cond.code ⟨"java/util/Arrays", "fill", "([II)V"⟩ prog_31_method_103_code 4 (none) ∈ lw_good := lw_t (i := 666) (by decide +kernel) (by decide +kernel)
theorem tw18 : Cond.initialized "java/util/Arrays" ∈ lw_good := lw_t (i := 18) (by decide +kernel) (by decide +kernel)
theorem cmJ7_fill_53178 (own : String) (idx : Nat) : CM own idx mJ7_fill_53178 2 := ⟨⟨by decide +kernel, rfl, by decide⟩, ⟨tw666, tw18⟩, by decide +kernel, by decide +kernel, by decide +kernel⟩
theorem tw665 : Cond.static ⟨"java/util/Arrays", "fill", "([II)V"⟩ ∈ lw_good := lw_t (i := 665) (by decide +kernel) (by decide +kernel)
theorem tw1114 : Cond.methodLink "RiverIfs$Sets" 39 ⟨"java/util/Arrays", "fill", "([II)V"⟩ ∈ lw_good := lw_t (i := 1114) (by decide +kernel) (by decide +kernel)
theorem cX6_39 : CS RX6 39 mJ7_fill_53178 2 := ⟨cmJ7_fill_53178 _ _, tw1114, tw665⟩
theorem tw514 : Cond.code ⟨"java/lang/Integer", "bitCount", "(I)I"⟩ prog_21_method_49_code 1 (some .int) ∈ lw_good := lw_t (i := 514) (by decide +kernel) (by decide +kernel)
theorem tw27 : Cond.initialized "java/lang/Integer" ∈ lw_good := lw_t (i := 27) (by decide +kernel) (by decide +kernel)
theorem cmJ6_bitCount_0f7a4 (own : String) (idx : Nat) : CM own idx mJ6_bitCount_0f7a4 1 := ⟨⟨by decide +kernel, rfl, by decide⟩, ⟨tw514, tw27⟩, by decide +kernel, by decide +kernel, by decide +kernel⟩
theorem tw513 : Cond.static ⟨"java/lang/Integer", "bitCount", "(I)I"⟩ ∈ lw_good := lw_t (i := 513) (by decide +kernel) (by decide +kernel)
theorem tw1116 : Cond.methodLink "RiverIfs$Sets" 44 ⟨"java/lang/Integer", "bitCount", "(I)I"⟩ ∈ lw_good := lw_t (i := 1116) (by decide +kernel) (by decide +kernel)
theorem cX6_44 : CS RX6 44 mJ6_bitCount_0f7a4 1 := ⟨cmJ6_bitCount_0f7a4 _ _, tw1116, tw513⟩
theorem tw1117 : Cond.methodLink "RiverIfs$Sets" 50 ⟨"java/lang/Math", "min", "(II)I"⟩ ∈ lw_good := lw_t (i := 1117) (by decide +kernel) (by decide +kernel)
theorem cX6_50 : Cond.methodLink RX6 50 Lib.Math.min.name ∈ lw_good := tw1117
theorem tw1121 : Cond.code ⟨"RiverIfs$Sets", "reachOn", "(LRiverIfs$Ifs;II)V"⟩ prog_8_method_6_code 6 (none) ∈ lw_good := lw_t (i := 1121) (by decide +kernel) (by decide +kernel)
theorem cmX6_reachOn (own : String) (idx : Nat) : CM own idx mX6_reachOn 3 := ⟨⟨by decide +kernel, rfl, by decide⟩, ⟨tw1121, tw11⟩, by decide +kernel, by decide +kernel, by decide +kernel⟩
theorem tw1120 : Cond.instanceMethod ⟨"RiverIfs$Sets", "reachOn", "(LRiverIfs$Ifs;II)V"⟩ ∈ lw_good := lw_t (i := 1120) (by decide +kernel) (by decide +kernel)
theorem ts35 : Cond.selects "RiverIfs$Sets" ⟨"RiverIfs$Sets", "reachOn", "(LRiverIfs$Ifs;II)V"⟩ ⟨"RiverIfs$Sets", "reachOn", "(LRiverIfs$Ifs;II)V"⟩ ∈ lw_good := lw_s (i := 35) (by decide +kernel) (by decide +kernel)
theorem tw1118 : Cond.methodLink "RiverIfs$Sets" 56 ⟨"RiverIfs$Sets", "reachOn", "(LRiverIfs$Ifs;II)V"⟩ ∈ lw_good := lw_t (i := 1118) (by decide +kernel) (by decide +kernel)
theorem cX6_56 : CV RX6 56 mX6_reachOn 3 6 := ⟨cmX6_reachOn _ _, _, _, _, rfl, tw1118, tw1120, ts35⟩
theorem tw79 : Cond.methodLink "RiverIfs$Shore" 3 ⟨"java/lang/Object", "<init>", "()V"⟩ ∈ lw_good := lw_t (i := 79) (by decide +kernel) (by decide +kernel)
theorem cX7_3 : Cond.methodLink RX7 3 Lib.objectInit ∈ lw_good := tw79
theorem tw127 : Cond.fieldLink "RiverIfs$Shore" 9 "RiverIfs$Shore" "worths" "[I" ∈ lw_good := lw_t (i := 127) (by decide +kernel) (by decide +kernel)
theorem fX7_9 : FL RX7 9 7 0 := ⟨_, _, _, rfl, by decide, inX7, tw127, rfl⟩
theorem tw80 : Cond.classLink "RiverIfs$Shore" 15 "RiverIfs$Ifs" ∈ lw_good := lw_t (i := 80) (by decide +kernel) (by decide +kernel)
theorem tw81 : Cond.instantiable "RiverIfs$Ifs" 5 ∈ lw_good := lw_t (i := 81) (by decide +kernel) (by decide +kernel)
theorem nX7_15 : NW RX7 15 1 5 (fun k => defaultValue (tyX1 k)) := ⟨_, _, tyX1, rfl, inX1, tyX1_ok, fun _ _ => rfl, tw80, tw81, tw5⟩
theorem tw84 : Cond.code ⟨"RiverIfs$Ifs", "<init>", "()V"⟩ prog_3_method_1_code 1 (none) ∈ lw_good := lw_t (i := 84) (by decide +kernel) (by decide +kernel)
theorem cmX1_init (own : String) (idx : Nat) : CM own idx mX1_init 0 := ⟨⟨by decide +kernel, rfl, by decide⟩, ⟨tw84, tw5⟩, by decide +kernel, by decide +kernel, by decide +kernel⟩
theorem tw83 : Cond.instanceMethod ⟨"RiverIfs$Ifs", "<init>", "()V"⟩ ∈ lw_good := lw_t (i := 83) (by decide +kernel) (by decide +kernel)
theorem cX7_17 : CIN RX7 17 mX1_init 0 := ⟨cmX1_init _ _, rfl, rfl, ⟨"RiverIfs", by decide +kernel⟩, tw83⟩
theorem tw129 : Cond.fieldLink "RiverIfs$Shore" 18 "RiverIfs$Shore" "ifs" "LRiverIfs$Ifs;" ∈ lw_good := lw_t (i := 129) (by decide +kernel) (by decide +kernel)
theorem fX7_18 : FL RX7 18 7 1 := ⟨_, _, _, rfl, by decide, inX7, tw129, rfl⟩
theorem tw111 : Cond.classLink "RiverIfs$Shore" 22 "RiverIfs$Rule" ∈ lw_good := lw_t (i := 111) (by decide +kernel) (by decide +kernel)
theorem tw112 : Cond.instantiable "RiverIfs$Rule" 3 ∈ lw_good := lw_t (i := 112) (by decide +kernel) (by decide +kernel)
theorem nX7_22 : NW RX7 22 4 3 (fun k => defaultValue (tyX4 k)) := ⟨_, _, tyX4, rfl, inX4, tyX4_ok, fun _ _ => rfl, tw111, tw112, tw6⟩
theorem tw115 : Cond.code ⟨"RiverIfs$Rule", "<init>", "()V"⟩ prog_6_method_1_code 1 (none) ∈ lw_good := lw_t (i := 115) (by decide +kernel) (by decide +kernel)
theorem cmX4_init (own : String) (idx : Nat) : CM own idx mX4_init 0 := ⟨⟨by decide +kernel, rfl, by decide⟩, ⟨tw115, tw6⟩, by decide +kernel, by decide +kernel, by decide +kernel⟩
theorem tw114 : Cond.instanceMethod ⟨"RiverIfs$Rule", "<init>", "()V"⟩ ∈ lw_good := lw_t (i := 114) (by decide +kernel) (by decide +kernel)
theorem cX7_24 : CIN RX7 24 mX4_init 0 := ⟨cmX4_init _ _, rfl, rfl, ⟨"RiverIfs", by decide +kernel⟩, tw114⟩
theorem tw132 : Cond.fieldLink "RiverIfs$Shore" 25 "RiverIfs$Shore" "rule" "LRiverIfs$Rule;" ∈ lw_good := lw_t (i := 132) (by decide +kernel) (by decide +kernel)
theorem fX7_25 : FL RX7 25 7 2 := ⟨_, _, _, rfl, by decide, inX7, tw132, rfl⟩
theorem tw135 : Cond.fieldLink "RiverIfs$Shore" 29 "RiverIfs$Shore" "spared" "[I" ∈ lw_good := lw_t (i := 135) (by decide +kernel) (by decide +kernel)
theorem fX7_29 : FL RX7 29 7 3 := ⟨_, _, _, rfl, by decide, inX7, tw135, rfl⟩
theorem tw137 : Cond.fieldLink "RiverIfs$Shore" 32 "RiverIfs$Shore" "hasFirst" "[I" ∈ lw_good := lw_t (i := 137) (by decide +kernel) (by decide +kernel)
theorem fX7_32 : FL RX7 32 7 4 := ⟨_, _, _, rfl, by decide, inX7, tw137, rfl⟩
theorem tw139 : Cond.fieldLink "RiverIfs$Shore" 35 "RiverIfs$Shore" "missedFirst" "[I" ∈ lw_good := lw_t (i := 139) (by decide +kernel) (by decide +kernel)
theorem fX7_35 : FL RX7 35 7 5 := ⟨_, _, _, rfl, by decide, inX7, tw139, rfl⟩
theorem tw141 : Cond.fieldLink "RiverIfs$Shore" 38 "RiverIfs$Shore" "longingFirst" "[I" ∈ lw_good := lw_t (i := 141) (by decide +kernel) (by decide +kernel)
theorem fX7_38 : FL RX7 38 7 6 := ⟨_, _, _, rfl, by decide, inX7, tw141, rfl⟩
theorem tw143 : Cond.fieldLink "RiverIfs$Shore" 41 "RiverIfs$Shore" "people" "I" ∈ lw_good := lw_t (i := 143) (by decide +kernel) (by decide +kernel)
theorem fX7_41 : FL RX7 41 7 7 := ⟨_, _, _, rfl, by decide, inX7, tw143, rfl⟩
theorem tw147 : Cond.fieldLink "RiverIfs$Shore" 45 "RiverIfs$Shore" "worthsTold" "I" ∈ lw_good := lw_t (i := 147) (by decide +kernel) (by decide +kernel)
theorem fX7_45 : FL RX7 45 7 8 := ⟨_, _, _, rfl, by decide, inX7, tw147, rfl⟩
theorem tw149 : Cond.fieldLink "RiverIfs$Shore" 48 "RiverIfs$Shore" "bears" "I" ∈ lw_good := lw_t (i := 149) (by decide +kernel) (by decide +kernel)
theorem fX7_48 : FL RX7 48 7 9 := ⟨_, _, _, rfl, by decide, inX7, tw149, rfl⟩
theorem tw152 : Cond.fieldLink "RiverIfs$Shore" 51 "RiverIfs$Shore" "bridgeTold" "Z" ∈ lw_good := lw_t (i := 152) (by decide +kernel) (by decide +kernel)
theorem fX7_51 : FL RX7 51 7 10 := ⟨_, _, _, rfl, by decide, inX7, tw152, rfl⟩
theorem tw664 : Cond.methodLink "RiverIfs$Shore" 55 ⟨"java/util/Arrays", "fill", "([II)V"⟩ ∈ lw_good := lw_t (i := 664) (by decide +kernel) (by decide +kernel)
theorem cX7_55 : CS RX7 55 mJ7_fill_53178 2 := ⟨cmJ7_fill_53178 _ _, tw664, tw665⟩
theorem tw670 : Cond.code ⟨"RiverIfs$Ifs", "clear", "()V"⟩ prog_3_method_2_code 1 (none) ∈ lw_good := lw_t (i := 670) (by decide +kernel) (by decide +kernel)
theorem cmX1_clear (own : String) (idx : Nat) : CM own idx mX1_clear 0 := ⟨⟨by decide +kernel, rfl, by decide⟩, ⟨tw670, tw5⟩, by decide +kernel, by decide +kernel, by decide +kernel⟩
theorem tw668 : Cond.instanceMethod ⟨"RiverIfs$Ifs", "clear", "()V"⟩ ∈ lw_good := lw_t (i := 668) (by decide +kernel) (by decide +kernel)
theorem tw669 : Cond.selects "RiverIfs$Ifs" ⟨"RiverIfs$Ifs", "clear", "()V"⟩ ⟨"RiverIfs$Ifs", "clear", "()V"⟩ ∈ lw_good := lw_t (i := 669) (by decide +kernel) (by decide +kernel)
theorem tw667 : Cond.methodLink "RiverIfs$Shore" 61 ⟨"RiverIfs$Ifs", "clear", "()V"⟩ ∈ lw_good := lw_t (i := 667) (by decide +kernel) (by decide +kernel)
theorem cX7_61 : CV RX7 61 mX1_clear 0 1 := ⟨cmX1_clear _ _, _, _, _, rfl, tw667, tw668, tw669⟩
theorem tw674 : Cond.code ⟨"RiverIfs$Rule", "clear", "()V"⟩ prog_6_method_2_code 1 (none) ∈ lw_good := lw_t (i := 674) (by decide +kernel) (by decide +kernel)
theorem cmX4_clear (own : String) (idx : Nat) : CM own idx mX4_clear 0 := ⟨⟨by decide +kernel, rfl, by decide⟩, ⟨tw674, tw6⟩, by decide +kernel, by decide +kernel, by decide +kernel⟩
theorem tw672 : Cond.instanceMethod ⟨"RiverIfs$Rule", "clear", "()V"⟩ ∈ lw_good := lw_t (i := 672) (by decide +kernel) (by decide +kernel)
theorem tw673 : Cond.selects "RiverIfs$Rule" ⟨"RiverIfs$Rule", "clear", "()V"⟩ ⟨"RiverIfs$Rule", "clear", "()V"⟩ ∈ lw_good := lw_t (i := 673) (by decide +kernel) (by decide +kernel)
theorem tw671 : Cond.methodLink "RiverIfs$Shore" 64 ⟨"RiverIfs$Rule", "clear", "()V"⟩ ∈ lw_good := lw_t (i := 671) (by decide +kernel) (by decide +kernel)
theorem cX7_64 : CV RX7 64 mX4_clear 0 4 := ⟨cmX4_clear _ _, _, _, _, rfl, tw671, tw672, tw673⟩
theorem cX7_65 : CSN RX7 65 mX11_isIn 2 := ⟨cmX11_isIn _ _, ⟨"RiverIfs", by decide +kernel⟩, tw454⟩
theorem tw200 : Cond.fieldLink "RiverIfs$Shore" 69 "RiverIfs$State" "has" "[I" ∈ lw_good := lw_t (i := 200) (by decide +kernel) (by decide +kernel)
theorem fX7_69 : FL RX7 69 8 0 := ⟨_, _, _, rfl, by decide, inX8, tw200, rfl⟩
theorem tw204 : Cond.fieldLink "RiverIfs$Shore" 74 "RiverIfs$State" "missed" "[I" ∈ lw_good := lw_t (i := 204) (by decide +kernel) (by decide +kernel)
theorem fX7_74 : FL RX7 74 8 1 := ⟨_, _, _, rfl, by decide, inX8, tw204, rfl⟩
theorem tw214 : Cond.fieldLink "RiverIfs$Shore" 77 "RiverIfs$State" "denied" "I" ∈ lw_good := lw_t (i := 214) (by decide +kernel) (by decide +kernel)
theorem fX7_77 : FL RX7 77 8 4 := ⟨_, _, _, rfl, by decide, inX8, tw214, rfl⟩
theorem tw448 : Cond.code ⟨"RiverIfs$Ifs", "allFrom", "(II)I"⟩ prog_3_method_5_code 6 (some .int) ∈ lw_good := lw_t (i := 448) (by decide +kernel) (by decide +kernel)
theorem cmX1_allFrom (own : String) (idx : Nat) : CM own idx mX1_allFrom 2 := ⟨⟨by decide +kernel, rfl, by decide⟩, ⟨tw448, tw5⟩, by decide +kernel, by decide +kernel, by decide +kernel⟩
theorem tw446 : Cond.instanceMethod ⟨"RiverIfs$Ifs", "allFrom", "(II)I"⟩ ∈ lw_good := lw_t (i := 446) (by decide +kernel) (by decide +kernel)
theorem tw447 : Cond.selects "RiverIfs$Ifs" ⟨"RiverIfs$Ifs", "allFrom", "(II)I"⟩ ⟨"RiverIfs$Ifs", "allFrom", "(II)I"⟩ ∈ lw_good := lw_t (i := 447) (by decide +kernel) (by decide +kernel)
theorem tw445 : Cond.methodLink "RiverIfs$Shore" 80 ⟨"RiverIfs$Ifs", "allFrom", "(II)I"⟩ ∈ lw_good := lw_t (i := 445) (by decide +kernel) (by decide +kernel)
theorem cX7_80 : CV RX7 80 mX1_allFrom 2 1 := ⟨cmX1_allFrom _ _, _, _, _, rfl, tw445, tw446, tw447⟩
theorem tw197 : Cond.methodLink "RiverIfs$State" 3 ⟨"java/lang/Object", "<init>", "()V"⟩ ∈ lw_good := lw_t (i := 197) (by decide +kernel) (by decide +kernel)
theorem cX8_3 : Cond.methodLink RX8 3 Lib.objectInit ∈ lw_good := tw197
theorem tw198 : Cond.fieldLink "RiverIfs$State" 9 "RiverIfs$State" "has" "[I" ∈ lw_good := lw_t (i := 198) (by decide +kernel) (by decide +kernel)
theorem fX8_9 : FL RX8 9 8 0 := ⟨_, _, _, rfl, by decide, inX8, tw198, rfl⟩
theorem tw202 : Cond.fieldLink "RiverIfs$State" 15 "RiverIfs$State" "missed" "[I" ∈ lw_good := lw_t (i := 202) (by decide +kernel) (by decide +kernel)
theorem fX8_15 : FL RX8 15 8 1 := ⟨_, _, _, rfl, by decide, inX8, tw202, rfl⟩
theorem tw206 : Cond.fieldLink "RiverIfs$State" 18 "RiverIfs$State" "longing" "[I" ∈ lw_good := lw_t (i := 206) (by decide +kernel) (by decide +kernel)
theorem fX8_18 : FL RX8 18 8 2 := ⟨_, _, _, rfl, by decide, inX8, tw206, rfl⟩
theorem tw209 : Cond.fieldLink "RiverIfs$State" 21 "RiverIfs$State" "flowers" "[I" ∈ lw_good := lw_t (i := 209) (by decide +kernel) (by decide +kernel)
theorem fX8_21 : FL RX8 21 8 3 := ⟨_, _, _, rfl, by decide, inX8, tw209, rfl⟩
theorem tw212 : Cond.fieldLink "RiverIfs$State" 24 "RiverIfs$State" "denied" "I" ∈ lw_good := lw_t (i := 212) (by decide +kernel) (by decide +kernel)
theorem fX8_24 : FL RX8 24 8 4 := ⟨_, _, _, rfl, by decide, inX8, tw212, rfl⟩
theorem tw215 : Cond.fieldLink "RiverIfs$State" 28 "RiverIfs$State" "bears" "I" ∈ lw_good := lw_t (i := 215) (by decide +kernel) (by decide +kernel)
theorem fX8_28 : FL RX8 28 8 5 := ⟨_, _, _, rfl, by decide, inX8, tw215, rfl⟩
theorem tw218 : Cond.fieldLink "RiverIfs$State" 31 "RiverIfs$State" "sunday" "I" ∈ lw_good := lw_t (i := 218) (by decide +kernel) (by decide +kernel)
theorem fX8_31 : FL RX8 31 8 6 := ⟨_, _, _, rfl, by decide, inX8, tw218, rfl⟩
theorem tw221 : Cond.fieldLink "RiverIfs$State" 34 "RiverIfs$State" "crossed" "I" ∈ lw_good := lw_t (i := 221) (by decide +kernel) (by decide +kernel)
theorem fX8_34 : FL RX8 34 8 7 := ⟨_, _, _, rfl, by decide, inX8, tw221, rfl⟩
theorem fX8_37 : FLN RX8 37 7 4 := ⟨_, _, _, "RiverIfs", rfl, by decide, inX7, by decide +kernel, rfl⟩
theorem tw426 : Cond.methodLink "RiverIfs$State" 42 ⟨"java/lang/System", "arraycopy", "(Ljava/lang/Object;ILjava/lang/Object;II)V"⟩ ∈ lw_good := lw_t (i := 426) (by decide +kernel) (by decide +kernel)
theorem cX8_42 : Cond.methodLink RX8 42 arraycopyName ∈ lw_good := tw426
theorem fX8_48 : FLN RX8 48 7 5 := ⟨_, _, _, "RiverIfs", rfl, by decide, inX7, by decide +kernel, rfl⟩
theorem fX8_51 : FLN RX8 51 7 6 := ⟨_, _, _, "RiverIfs", rfl, by decide, inX7, by decide +kernel, rfl⟩
theorem tw929 : Cond.methodLink "RiverIfs$State" 54 ⟨"java/util/Arrays", "fill", "([II)V"⟩ ∈ lw_good := lw_t (i := 929) (by decide +kernel) (by decide +kernel)
theorem cX8_54 : CS RX8 54 mJ7_fill_53178 2 := ⟨cmJ7_fill_53178 _ _, tw929, tw665⟩
theorem tw150 : Cond.fieldLink "RiverIfs$State" 60 "RiverIfs$Shore" "bears" "I" ∈ lw_good := lw_t (i := 150) (by decide +kernel) (by decide +kernel)
theorem fX8_60 : FL RX8 60 7 9 := ⟨_, _, _, rfl, by decide, inX7, tw150, rfl⟩
theorem tw47 : Cond.methodLink "RiverIfs$Tape" 3 ⟨"java/lang/Object", "<init>", "()V"⟩ ∈ lw_good := lw_t (i := 47) (by decide +kernel) (by decide +kernel)
theorem cX9_3 : Cond.methodLink RX9 3 Lib.objectInit ∈ lw_good := tw47
theorem tw48 : Cond.fieldLink "RiverIfs$Tape" 9 "RiverIfs$Tape" "bytes" "[B" ∈ lw_good := lw_t (i := 48) (by decide +kernel) (by decide +kernel)
theorem fX9_9 : FL RX9 9 9 0 := ⟨_, _, _, rfl, by decide, inX9, tw48, rfl⟩
theorem tw49 : Cond.fieldLink "RiverIfs$Tape" 15 "RiverIfs$Tape" "length" "I" ∈ lw_good := lw_t (i := 49) (by decide +kernel) (by decide +kernel)
theorem fX9_15 : FL RX9 15 9 1 := ⟨_, _, _, rfl, by decide, inX9, tw49, rfl⟩
theorem tw50 : Cond.fieldLink "RiverIfs$Tape" 19 "RiverIfs$Tape" "next" "I" ∈ lw_good := lw_t (i := 50) (by decide +kernel) (by decide +kernel)
theorem fX9_19 : FL RX9 19 9 2 := ⟨_, _, _, rfl, by decide, inX9, tw50, rfl⟩
theorem tw51 : Cond.fieldLink "RiverIfs$Tape" 22 "RiverIfs$Tape" "first" "I" ∈ lw_good := lw_t (i := 51) (by decide +kernel) (by decide +kernel)
theorem fX9_22 : FL RX9 22 9 3 := ⟨_, _, _, rfl, by decide, inX9, tw51, rfl⟩
theorem tw52 : Cond.fieldLink "RiverIfs$Tape" 25 "RiverIfs$Tape" "size" "I" ∈ lw_good := lw_t (i := 52) (by decide +kernel) (by decide +kernel)
theorem fX9_25 : FL RX9 25 9 4 := ⟨_, _, _, rfl, by decide, inX9, tw52, rfl⟩
theorem tw54 : Cond.fieldLink "RiverIfs$Tape" 28 "RiverIfs$Tape" "place" "I" ∈ lw_good := lw_t (i := 54) (by decide +kernel) (by decide +kernel)
theorem fX9_28 : FL RX9 28 9 5 := ⟨_, _, _, rfl, by decide, inX9, tw54, rfl⟩
theorem tw56 : Cond.fieldLink "RiverIfs$Tape" 31 "RiverIfs$Tape" "kind" "I" ∈ lw_good := lw_t (i := 56) (by decide +kernel) (by decide +kernel)
theorem fX9_31 : FL RX9 31 9 6 := ⟨_, _, _, rfl, by decide, inX9, tw56, rfl⟩
theorem tw679 : Cond.methodLink "RiverIfs$Tape" 34 ⟨"java/lang/Math", "min", "(II)I"⟩ ∈ lw_good := lw_t (i := 679) (by decide +kernel) (by decide +kernel)
theorem cX9_34 : Cond.methodLink RX9 34 Lib.Math.min.name ∈ lw_good := tw679
theorem tw680 : Cond.methodLink "RiverIfs$Tape" 40 ⟨"RiverIfs$Tape", "advance", "()V"⟩ ∈ lw_good := lw_t (i := 680) (by decide +kernel) (by decide +kernel)
theorem cX9_40 : CV RX9 40 mX9_advance 0 9 := ⟨cmX9_advance _ _, _, _, _, rfl, tw680, tw681, tw682⟩
theorem tw687 : Cond.code ⟨"RiverIfs$Tape", "byteAt", "(I)I"⟩ prog_11_method_5_code 2 (some .int) ∈ lw_good := lw_t (i := 687) (by decide +kernel) (by decide +kernel)
theorem cmX9_byteAt (own : String) (idx : Nat) : CM own idx mX9_byteAt 1 := ⟨⟨by decide +kernel, rfl, by decide⟩, ⟨tw687, tw3⟩, by decide +kernel, by decide +kernel, by decide +kernel⟩
theorem tw686 : Cond.instanceMethod ⟨"RiverIfs$Tape", "byteAt", "(I)I"⟩ ∈ lw_good := lw_t (i := 686) (by decide +kernel) (by decide +kernel)
theorem ts9 : Cond.selects "RiverIfs$Tape" ⟨"RiverIfs$Tape", "byteAt", "(I)I"⟩ ⟨"RiverIfs$Tape", "byteAt", "(I)I"⟩ ∈ lw_good := lw_s (i := 9) (by decide +kernel) (by decide +kernel)
theorem tw684 : Cond.methodLink "RiverIfs$Tape" 43 ⟨"RiverIfs$Tape", "byteAt", "(I)I"⟩ ∈ lw_good := lw_t (i := 684) (by decide +kernel) (by decide +kernel)
theorem cX9_43 : CV RX9 43 mX9_byteAt 1 9 := ⟨cmX9_byteAt _ _, _, _, _, rfl, tw684, tw686, ts9⟩
theorem tw690 : Cond.code ⟨"RiverIfs$Tape", "isBlank", "(I)Z"⟩ prog_11_method_6_code 1 (some .boolean) ∈ lw_good := lw_t (i := 690) (by decide +kernel) (by decide +kernel)
theorem cmX9_isBlank (own : String) (idx : Nat) : CM own idx mX9_isBlank 1 := ⟨⟨by decide +kernel, rfl, by decide⟩, ⟨tw690, tw3⟩, by decide +kernel, by decide +kernel, by decide +kernel⟩
theorem tw689 : Cond.static ⟨"RiverIfs$Tape", "isBlank", "(I)Z"⟩ ∈ lw_good := lw_t (i := 689) (by decide +kernel) (by decide +kernel)
theorem tw688 : Cond.methodLink "RiverIfs$Tape" 47 ⟨"RiverIfs$Tape", "isBlank", "(I)Z"⟩ ∈ lw_good := lw_t (i := 688) (by decide +kernel) (by decide +kernel)
theorem cX9_47 : CS RX9 47 mX9_isBlank 1 := ⟨cmX9_isBlank _ _, tw688, tw689⟩
theorem tw693 : Cond.code ⟨"RiverIfs$Tape", "kindOf", "(I)I"⟩ prog_11_method_7_code 1 (some .int) ∈ lw_good := lw_t (i := 693) (by decide +kernel) (by decide +kernel)
theorem cmX9_kindOf (own : String) (idx : Nat) : CM own idx mX9_kindOf 1 := ⟨⟨by decide +kernel, rfl, by decide⟩, ⟨tw693, tw3⟩, by decide +kernel, by decide +kernel, by decide +kernel⟩
theorem tw692 : Cond.static ⟨"RiverIfs$Tape", "kindOf", "(I)I"⟩ ∈ lw_good := lw_t (i := 692) (by decide +kernel) (by decide +kernel)
theorem tw691 : Cond.methodLink "RiverIfs$Tape" 51 ⟨"RiverIfs$Tape", "kindOf", "(I)I"⟩ ∈ lw_good := lw_t (i := 691) (by decide +kernel) (by decide +kernel)
theorem cX9_51 : CS RX9 51 mX9_kindOf 1 := ⟨cmX9_kindOf _ _, tw691, tw692⟩
theorem tw698 : Cond.code ⟨"java/lang/String", "indexOf", "(I)I"⟩ prog_24_method_79_code 2 (some .int) ∈ lw_good := lw_t (i := 698) (by decide +kernel) (by decide +kernel)
theorem tw20 : Cond.initialized "java/lang/String" ∈ lw_good := lw_t (i := 20) (by decide +kernel) (by decide +kernel)
theorem cmJ0_indexOf_0f7a4 (own : String) (idx : Nat) : CM own idx mJ0_indexOf_0f7a4 1 := ⟨⟨by decide +kernel, rfl, by decide⟩, ⟨tw698, tw20⟩, by decide +kernel, by decide +kernel, by decide +kernel⟩
theorem tw712 : Cond.code ⟨"java/lang/String", "length", "()I"⟩ prog_24_method_54_code 1 (some .int) ∈ lw_good := lw_t (i := 712) (by decide +kernel) (by decide +kernel)
theorem cmJ0_length_8abf5 (own : String) (idx : Nat) : CM own idx mJ0_length_8abf5 0 := ⟨⟨by decide +kernel, rfl, by decide⟩, ⟨tw712, tw20⟩, by decide +kernel, by decide +kernel, by decide +kernel⟩
theorem tw790 : Cond.code ⟨"java/lang/String", "charAt", "(I)C"⟩ prog_24_method_56_code 2 (some .char) ∈ lw_good := lw_t (i := 790) (by decide +kernel) (by decide +kernel)
theorem cmJ0_charAt_5068e (own : String) (idx : Nat) : CM own idx mJ0_charAt_5068e 1 := ⟨⟨by decide +kernel, rfl, by decide⟩, ⟨tw790, tw20⟩, by decide +kernel, by decide +kernel, by decide +kernel⟩
theorem tw331 : Cond.methodLink "RiverIfs$Walk" 3 ⟨"java/lang/Object", "<init>", "()V"⟩ ∈ lw_good := lw_t (i := 331) (by decide +kernel) (by decide +kernel)
theorem cX10_3 : Cond.methodLink RX10 3 Lib.objectInit ∈ lw_good := tw331
theorem tw332 : Cond.classLink "RiverIfs$Walk" 9 "RiverIfs$State" ∈ lw_good := lw_t (i := 332) (by decide +kernel) (by decide +kernel)
theorem nX10_9 : NW RX10 9 8 8 (fun k => defaultValue (tyX8 k)) := ⟨_, _, tyX8, rfl, inX8, tyX8_ok, fun _ _ => rfl, tw332, tw193, tw7⟩
theorem cX10_11 : CIN RX10 11 mX8_init 0 := ⟨cmX8_init _ _, rfl, rfl, ⟨"RiverIfs", by decide +kernel⟩, tw195⟩
theorem tw334 : Cond.fieldLink "RiverIfs$Walk" 12 "RiverIfs$Walk" "state" "LRiverIfs$State;" ∈ lw_good := lw_t (i := 334) (by decide +kernel) (by decide +kernel)
theorem fX10_12 : FL RX10 12 10 0 := ⟨_, _, _, rfl, by decide, inX10, tw334, rfl⟩
theorem tw336 : Cond.fieldLink "RiverIfs$Walk" 18 "RiverIfs$Walk" "there" "[I" ∈ lw_good := lw_t (i := 336) (by decide +kernel) (by decide +kernel)
theorem fX10_18 : FL RX10 18 10 1 := ⟨_, _, _, rfl, by decide, inX10, tw336, rfl⟩
theorem tw338 : Cond.fieldLink "RiverIfs$Walk" 22 "RiverIfs$Walk" "worthHere" "[I" ∈ lw_good := lw_t (i := 338) (by decide +kernel) (by decide +kernel)
theorem fX10_22 : FL RX10 22 10 2 := ⟨_, _, _, rfl, by decide, inX10, tw338, rfl⟩
theorem tw339 : Cond.fieldLink "RiverIfs$Walk" 25 "RiverIfs$Walk" "worthThere" "[I" ∈ lw_good := lw_t (i := 339) (by decide +kernel) (by decide +kernel)
theorem fX10_25 : FL RX10 25 10 3 := ⟨_, _, _, rfl, by decide, inX10, tw339, rfl⟩
theorem tw340 : Cond.fieldLink "RiverIfs$Walk" 28 "RiverIfs$Walk" "worthSpared" "[I" ∈ lw_good := lw_t (i := 340) (by decide +kernel) (by decide +kernel)
theorem fX10_28 : FL RX10 28 10 4 := ⟨_, _, _, rfl, by decide, inX10, tw340, rfl⟩
theorem tw341 : Cond.fieldLink "RiverIfs$Walk" 33 "RiverIfs$Walk" "values" "[I" ∈ lw_good := lw_t (i := 341) (by decide +kernel) (by decide +kernel)
theorem fX10_33 : FL RX10 33 10 5 := ⟨_, _, _, rfl, by decide, inX10, tw341, rfl⟩
theorem tw343 : Cond.fieldLink "RiverIfs$Walk" 36 "RiverIfs$Walk" "wanting" "I" ∈ lw_good := lw_t (i := 343) (by decide +kernel) (by decide +kernel)
theorem fX10_36 : FL RX10 36 10 7 := ⟨_, _, _, rfl, by decide, inX10, tw343, rfl⟩
theorem tw342 : Cond.fieldLink "RiverIfs$Walk" 40 "RiverIfs$Walk" "shore" "LRiverIfs$Shore;" ∈ lw_good := lw_t (i := 342) (by decide +kernel) (by decide +kernel)
theorem fX10_40 : FL RX10 40 10 6 := ⟨_, _, _, rfl, by decide, inX10, tw342, rfl⟩
theorem tw436 : Cond.code ⟨"RiverIfs$State", "copyFrom", "(LRiverIfs$State;)V"⟩ prog_10_method_3_code 2 (none) ∈ lw_good := lw_t (i := 436) (by decide +kernel) (by decide +kernel)
theorem cmX8_copyFrom (own : String) (idx : Nat) : CM own idx mX8_copyFrom 1 := ⟨⟨by decide +kernel, rfl, by decide⟩, ⟨tw436, tw7⟩, by decide +kernel, by decide +kernel, by decide +kernel⟩
theorem tw434 : Cond.instanceMethod ⟨"RiverIfs$State", "copyFrom", "(LRiverIfs$State;)V"⟩ ∈ lw_good := lw_t (i := 434) (by decide +kernel) (by decide +kernel)
theorem tw435 : Cond.selects "RiverIfs$State" ⟨"RiverIfs$State", "copyFrom", "(LRiverIfs$State;)V"⟩ ⟨"RiverIfs$State", "copyFrom", "(LRiverIfs$State;)V"⟩ ∈ lw_good := lw_t (i := 435) (by decide +kernel) (by decide +kernel)
theorem tw433 : Cond.methodLink "RiverIfs$Walk" 44 ⟨"RiverIfs$State", "copyFrom", "(LRiverIfs$State;)V"⟩ ∈ lw_good := lw_t (i := 433) (by decide +kernel) (by decide +kernel)
theorem cX10_44 : CV RX10 44 mX8_copyFrom 1 8 := ⟨cmX8_copyFrom _ _, _, _, _, rfl, tw433, tw434, tw435⟩
theorem tw144 : Cond.fieldLink "RiverIfs$Walk" 48 "RiverIfs$Shore" "people" "I" ∈ lw_good := lw_t (i := 144) (by decide +kernel) (by decide +kernel)
theorem fX10_48 : FL RX10 48 7 7 := ⟨_, _, _, rfl, by decide, inX7, tw144, rfl⟩
theorem tw440 : Cond.code ⟨"RiverIfs$Walk", "settle", "(I)V"⟩ prog_12_method_3_code 2 (none) ∈ lw_good := lw_t (i := 440) (by decide +kernel) (by decide +kernel)
theorem tw12 : Cond.initialized "RiverIfs$Walk" ∈ lw_good := lw_t (i := 12) (by decide +kernel) (by decide +kernel)
theorem cmX10_settle (own : String) (idx : Nat) : CM own idx mX10_settle 1 := ⟨⟨by decide +kernel, rfl, by decide⟩, ⟨tw440, tw12⟩, by decide +kernel, by decide +kernel, by decide +kernel⟩
theorem tw439 : Cond.instanceMethod ⟨"RiverIfs$Walk", "settle", "(I)V"⟩ ∈ lw_good := lw_t (i := 439) (by decide +kernel) (by decide +kernel)
theorem ts1 : Cond.selects "RiverIfs$Walk" ⟨"RiverIfs$Walk", "settle", "(I)V"⟩ ⟨"RiverIfs$Walk", "settle", "(I)V"⟩ ∈ lw_good := lw_s (i := 1) (by decide +kernel) (by decide +kernel)
theorem tw437 : Cond.methodLink "RiverIfs$Walk" 53 ⟨"RiverIfs$Walk", "settle", "(I)V"⟩ ∈ lw_good := lw_t (i := 437) (by decide +kernel) (by decide +kernel)
theorem cX10_53 : CV RX10 53 mX10_settle 1 10 := ⟨cmX10_settle _ _, _, _, _, rfl, tw437, tw439, ts1⟩
theorem tw444 : Cond.code ⟨"RiverIfs$Shore", "thereOf", "(LRiverIfs$State;I)I"⟩ prog_9_method_6_code 3 (some .int) ∈ lw_good := lw_t (i := 444) (by decide +kernel) (by decide +kernel)
theorem cmX7_thereOf (own : String) (idx : Nat) : CM own idx mX7_thereOf 2 := ⟨⟨by decide +kernel, rfl, by decide⟩, ⟨tw444, tw4⟩, by decide +kernel, by decide +kernel, by decide +kernel⟩
theorem tw442 : Cond.instanceMethod ⟨"RiverIfs$Shore", "thereOf", "(LRiverIfs$State;I)I"⟩ ∈ lw_good := lw_t (i := 442) (by decide +kernel) (by decide +kernel)
theorem tw443 : Cond.selects "RiverIfs$Shore" ⟨"RiverIfs$Shore", "thereOf", "(LRiverIfs$State;I)I"⟩ ⟨"RiverIfs$Shore", "thereOf", "(LRiverIfs$State;I)I"⟩ ∈ lw_good := lw_t (i := 443) (by decide +kernel) (by decide +kernel)
theorem tw441 : Cond.methodLink "RiverIfs$Walk" 57 ⟨"RiverIfs$Shore", "thereOf", "(LRiverIfs$State;I)I"⟩ ∈ lw_good := lw_t (i := 441) (by decide +kernel) (by decide +kernel)
theorem cX10_57 : CV RX10 57 mX7_thereOf 2 7 := ⟨cmX7_thereOf _ _, _, _, _, rfl, tw441, tw442, tw443⟩
theorem tw199 : Cond.fieldLink "RiverIfs$Walk" 61 "RiverIfs$State" "has" "[I" ∈ lw_good := lw_t (i := 199) (by decide +kernel) (by decide +kernel)
theorem fX10_61 : FL RX10 61 8 0 := ⟨_, _, _, rfl, by decide, inX8, tw199, rfl⟩
theorem tw459 : Cond.code ⟨"RiverIfs$Shore", "worthOf", "(I)I"⟩ prog_9_method_5_code 4 (some .int) ∈ lw_good := lw_t (i := 459) (by decide +kernel) (by decide +kernel)
theorem cmX7_worthOf (own : String) (idx : Nat) : CM own idx mX7_worthOf 1 := ⟨⟨by decide +kernel, rfl, by decide⟩, ⟨tw459, tw4⟩, by decide +kernel, by decide +kernel, by decide +kernel⟩
theorem tw457 : Cond.instanceMethod ⟨"RiverIfs$Shore", "worthOf", "(I)I"⟩ ∈ lw_good := lw_t (i := 457) (by decide +kernel) (by decide +kernel)
theorem tw458 : Cond.selects "RiverIfs$Shore" ⟨"RiverIfs$Shore", "worthOf", "(I)I"⟩ ⟨"RiverIfs$Shore", "worthOf", "(I)I"⟩ ∈ lw_good := lw_t (i := 458) (by decide +kernel) (by decide +kernel)
theorem tw456 : Cond.methodLink "RiverIfs$Walk" 64 ⟨"RiverIfs$Shore", "worthOf", "(I)I"⟩ ∈ lw_good := lw_t (i := 456) (by decide +kernel) (by decide +kernel)
theorem cX10_64 : CV RX10 64 mX7_worthOf 1 7 := ⟨cmX7_worthOf _ _, _, _, _, rfl, tw456, tw457, tw458⟩
theorem tw464 : Cond.code ⟨"RiverIfs$Shore", "sparedBankOf", "(LRiverIfs$State;I)I"⟩ prog_9_method_7_code 3 (some .int) ∈ lw_good := lw_t (i := 464) (by decide +kernel) (by decide +kernel)
theorem cmX7_sparedBankOf (own : String) (idx : Nat) : CM own idx mX7_sparedBankOf 2 := ⟨⟨by decide +kernel, rfl, by decide⟩, ⟨tw464, tw4⟩, by decide +kernel, by decide +kernel, by decide +kernel⟩
theorem tw462 : Cond.instanceMethod ⟨"RiverIfs$Shore", "sparedBankOf", "(LRiverIfs$State;I)I"⟩ ∈ lw_good := lw_t (i := 462) (by decide +kernel) (by decide +kernel)
theorem tw463 : Cond.selects "RiverIfs$Shore" ⟨"RiverIfs$Shore", "sparedBankOf", "(LRiverIfs$State;I)I"⟩ ⟨"RiverIfs$Shore", "sparedBankOf", "(LRiverIfs$State;I)I"⟩ ∈ lw_good := lw_t (i := 463) (by decide +kernel) (by decide +kernel)
theorem tw461 : Cond.methodLink "RiverIfs$Walk" 68 ⟨"RiverIfs$Shore", "sparedBankOf", "(LRiverIfs$State;I)I"⟩ ∈ lw_good := lw_t (i := 461) (by decide +kernel) (by decide +kernel)
theorem cX10_68 : CV RX10 68 mX7_sparedBankOf 2 7 := ⟨cmX7_sparedBankOf _ _, _, _, _, rfl, tw461, tw462, tw463⟩
theorem tw203 : Cond.fieldLink "RiverIfs$Walk" 71 "RiverIfs$State" "missed" "[I" ∈ lw_good := lw_t (i := 203) (by decide +kernel) (by decide +kernel)
theorem fX10_71 : FL RX10 71 8 1 := ⟨_, _, _, rfl, by decide, inX8, tw203, rfl⟩
theorem cX10_74 : CSN RX10 74 mX11_isIn 2 := ⟨cmX11_isIn _ _, ⟨"RiverIfs", by decide +kernel⟩, tw454⟩
theorem tw472 : Cond.code ⟨"RiverIfs$Walk", "whoWants", "()I"⟩ prog_12_method_9_code 3 (some .int) ∈ lw_good := lw_t (i := 472) (by decide +kernel) (by decide +kernel)
theorem cmX10_whoWants (own : String) (idx : Nat) : CM own idx mX10_whoWants 0 := ⟨⟨by decide +kernel, rfl, by decide⟩, ⟨tw472, tw12⟩, by decide +kernel, by decide +kernel, by decide +kernel⟩
theorem tw471 : Cond.instanceMethod ⟨"RiverIfs$Walk", "whoWants", "()I"⟩ ∈ lw_good := lw_t (i := 471) (by decide +kernel) (by decide +kernel)
theorem ts2 : Cond.selects "RiverIfs$Walk" ⟨"RiverIfs$Walk", "whoWants", "()I"⟩ ⟨"RiverIfs$Walk", "whoWants", "()I"⟩ ∈ lw_good := lw_s (i := 2) (by decide +kernel) (by decide +kernel)
theorem tw469 : Cond.methodLink "RiverIfs$Walk" 78 ⟨"RiverIfs$Walk", "whoWants", "()I"⟩ ∈ lw_good := lw_t (i := 469) (by decide +kernel) (by decide +kernel)
theorem cX10_78 : CV RX10 78 mX10_whoWants 0 10 := ⟨cmX10_whoWants _ _, _, _, _, rfl, tw469, tw471, ts2⟩
theorem tw492 : Cond.code ⟨"RiverIfs$Walk", "whoGoes", "()I"⟩ prog_12_method_11_code 3 (some .int) ∈ lw_good := lw_t (i := 492) (by decide +kernel) (by decide +kernel)
theorem cmX10_whoGoes (own : String) (idx : Nat) : CM own idx mX10_whoGoes 0 := ⟨⟨by decide +kernel, rfl, by decide⟩, ⟨tw492, tw12⟩, by decide +kernel, by decide +kernel, by decide +kernel⟩
theorem tw491 : Cond.instanceMethod ⟨"RiverIfs$Walk", "whoGoes", "()I"⟩ ∈ lw_good := lw_t (i := 491) (by decide +kernel) (by decide +kernel)
theorem ts3 : Cond.selects "RiverIfs$Walk" ⟨"RiverIfs$Walk", "whoGoes", "()I"⟩ ⟨"RiverIfs$Walk", "whoGoes", "()I"⟩ ∈ lw_good := lw_s (i := 3) (by decide +kernel) (by decide +kernel)
theorem tw489 : Cond.methodLink "RiverIfs$Walk" 82 ⟨"RiverIfs$Walk", "whoGoes", "()I"⟩ ∈ lw_good := lw_t (i := 489) (by decide +kernel) (by decide +kernel)
theorem cX10_82 : CV RX10 82 mX10_whoGoes 0 10 := ⟨cmX10_whoGoes _ _, _, _, _, rfl, tw489, tw491, ts3⟩
theorem tw223 : Cond.fieldLink "RiverIfs$Walk" 85 "RiverIfs$State" "crossed" "I" ∈ lw_good := lw_t (i := 223) (by decide +kernel) (by decide +kernel)
theorem fX10_85 : FL RX10 85 8 7 := ⟨_, _, _, rfl, by decide, inX8, tw223, rfl⟩
theorem tw500 : Cond.code ⟨"RiverIfs$Walk", "cross", "(I)V"⟩ prog_12_method_13_code 3 (none) ∈ lw_good := lw_t (i := 500) (by decide +kernel) (by decide +kernel)
theorem cmX10_cross (own : String) (idx : Nat) : CM own idx mX10_cross 1 := ⟨⟨by decide +kernel, rfl, by decide⟩, ⟨tw500, tw12⟩, by decide +kernel, by decide +kernel, by decide +kernel⟩
theorem tw499 : Cond.instanceMethod ⟨"RiverIfs$Walk", "cross", "(I)V"⟩ ∈ lw_good := lw_t (i := 499) (by decide +kernel) (by decide +kernel)
theorem ts5 : Cond.selects "RiverIfs$Walk" ⟨"RiverIfs$Walk", "cross", "(I)V"⟩ ⟨"RiverIfs$Walk", "cross", "(I)V"⟩ ∈ lw_good := lw_s (i := 5) (by decide +kernel) (by decide +kernel)
theorem tw497 : Cond.methodLink "RiverIfs$Walk" 88 ⟨"RiverIfs$Walk", "cross", "(I)V"⟩ ∈ lw_good := lw_t (i := 497) (by decide +kernel) (by decide +kernel)
theorem cX10_88 : CV RX10 88 mX10_cross 1 10 := ⟨cmX10_cross _ _, _, _, _, rfl, tw497, tw499, ts5⟩
theorem tw524 : Cond.code ⟨"RiverIfs$Walk", "stay", "(I)V"⟩ prog_12_method_14_code 3 (none) ∈ lw_good := lw_t (i := 524) (by decide +kernel) (by decide +kernel)
theorem cmX10_stay (own : String) (idx : Nat) : CM own idx mX10_stay 1 := ⟨⟨by decide +kernel, rfl, by decide⟩, ⟨tw524, tw12⟩, by decide +kernel, by decide +kernel, by decide +kernel⟩
theorem tw523 : Cond.instanceMethod ⟨"RiverIfs$Walk", "stay", "(I)V"⟩ ∈ lw_good := lw_t (i := 523) (by decide +kernel) (by decide +kernel)
theorem ts7 : Cond.selects "RiverIfs$Walk" ⟨"RiverIfs$Walk", "stay", "(I)V"⟩ ⟨"RiverIfs$Walk", "stay", "(I)V"⟩ ∈ lw_good := lw_s (i := 7) (by decide +kernel) (by decide +kernel)
theorem tw521 : Cond.methodLink "RiverIfs$Walk" 91 ⟨"RiverIfs$Walk", "stay", "(I)V"⟩ ∈ lw_good := lw_t (i := 521) (by decide +kernel) (by decide +kernel)
theorem cX10_91 : CV RX10 91 mX10_stay 1 10 := ⟨cmX10_stay _ _, _, _, _, rfl, tw521, tw523, ts7⟩
theorem tw220 : Cond.fieldLink "RiverIfs$Walk" 94 "RiverIfs$State" "sunday" "I" ∈ lw_good := lw_t (i := 220) (by decide +kernel) (by decide +kernel)
theorem fX10_94 : FL RX10 94 8 6 := ⟨_, _, _, rfl, by decide, inX8, tw220, rfl⟩
theorem tw476 : Cond.code ⟨"RiverIfs$Walk", "wants", "(I)Z"⟩ prog_12_method_10_code 2 (some .boolean) ∈ lw_good := lw_t (i := 476) (by decide +kernel) (by decide +kernel)
theorem cmX10_wants (own : String) (idx : Nat) : CM own idx mX10_wants 1 := ⟨⟨by decide +kernel, rfl, by decide⟩, ⟨tw476, tw12⟩, by decide +kernel, by decide +kernel, by decide +kernel⟩
theorem tw474 : Cond.instanceMethod ⟨"RiverIfs$Walk", "wants", "(I)Z"⟩ ∈ lw_good := lw_t (i := 474) (by decide +kernel) (by decide +kernel)
theorem tw475 : Cond.selects "RiverIfs$Walk" ⟨"RiverIfs$Walk", "wants", "(I)Z"⟩ ⟨"RiverIfs$Walk", "wants", "(I)Z"⟩ ∈ lw_good := lw_t (i := 475) (by decide +kernel) (by decide +kernel)
theorem tw473 : Cond.methodLink "RiverIfs$Walk" 97 ⟨"RiverIfs$Walk", "wants", "(I)Z"⟩ ∈ lw_good := lw_t (i := 473) (by decide +kernel) (by decide +kernel)
theorem cX10_97 : CV RX10 97 mX10_wants 1 10 := ⟨cmX10_wants _ _, _, _, _, rfl, tw473, tw474, tw475⟩
theorem tw134 : Cond.fieldLink "RiverIfs$Walk" 101 "RiverIfs$Shore" "rule" "LRiverIfs$Rule;" ∈ lw_good := lw_t (i := 134) (by decide +kernel) (by decide +kernel)
theorem fX10_101 : FL RX10 101 7 2 := ⟨_, _, _, rfl, by decide, inX7, tw134, rfl⟩
theorem tw477 : Cond.methodLink "RiverIfs$Walk" 105 ⟨"RiverIfs$Rule", "isTold", "()Z"⟩ ∈ lw_good := lw_t (i := 477) (by decide +kernel) (by decide +kernel)
theorem cX10_105 : CV RX10 105 mX4_isTold 0 4 := ⟨cmX4_isTold _ _, _, _, _, rfl, tw477, tw478, tw479⟩
theorem tw208 : Cond.fieldLink "RiverIfs$Walk" 109 "RiverIfs$State" "longing" "[I" ∈ lw_good := lw_t (i := 208) (by decide +kernel) (by decide +kernel)
theorem fX10_109 : FL RX10 109 8 2 := ⟨_, _, _, rfl, by decide, inX8, tw208, rfl⟩
theorem tw211 : Cond.fieldLink "RiverIfs$Walk" 112 "RiverIfs$State" "flowers" "[I" ∈ lw_good := lw_t (i := 211) (by decide +kernel) (by decide +kernel)
theorem fX10_112 : FL RX10 112 8 3 := ⟨_, _, _, rfl, by decide, inX8, tw211, rfl⟩
theorem tw485 : Cond.code ⟨"RiverIfs$Rule", "reckon", "([I)I"⟩ prog_6_method_5_code 5 (some .int) ∈ lw_good := lw_t (i := 485) (by decide +kernel) (by decide +kernel)
theorem cmX4_reckon (own : String) (idx : Nat) : CM own idx mX4_reckon 1 := ⟨⟨by decide +kernel, rfl, by decide⟩, ⟨tw485, tw6⟩, by decide +kernel, by decide +kernel, by decide +kernel⟩
theorem tw483 : Cond.instanceMethod ⟨"RiverIfs$Rule", "reckon", "([I)I"⟩ ∈ lw_good := lw_t (i := 483) (by decide +kernel) (by decide +kernel)
theorem tw484 : Cond.selects "RiverIfs$Rule" ⟨"RiverIfs$Rule", "reckon", "([I)I"⟩ ⟨"RiverIfs$Rule", "reckon", "([I)I"⟩ ∈ lw_good := lw_t (i := 484) (by decide +kernel) (by decide +kernel)
theorem tw482 : Cond.methodLink "RiverIfs$Walk" 115 ⟨"RiverIfs$Rule", "reckon", "([I)I"⟩ ∈ lw_good := lw_t (i := 482) (by decide +kernel) (by decide +kernel)
theorem cX10_115 : CV RX10 115 mX4_reckon 1 4 := ⟨cmX4_reckon _ _, _, _, _, rfl, tw482, tw483, tw484⟩
theorem tw217 : Cond.fieldLink "RiverIfs$Walk" 119 "RiverIfs$State" "bears" "I" ∈ lw_good := lw_t (i := 217) (by decide +kernel) (by decide +kernel)
theorem fX10_119 : FL RX10 119 8 5 := ⟨_, _, _, rfl, by decide, inX8, tw217, rfl⟩
theorem tw496 : Cond.code ⟨"RiverIfs$Walk", "mostLonging", "(I)I"⟩ prog_12_method_12_code 4 (some .int) ∈ lw_good := lw_t (i := 496) (by decide +kernel) (by decide +kernel)
theorem cmX10_mostLonging (own : String) (idx : Nat) : CM own idx mX10_mostLonging 1 := ⟨⟨by decide +kernel, rfl, by decide⟩, ⟨tw496, tw12⟩, by decide +kernel, by decide +kernel, by decide +kernel⟩
theorem tw495 : Cond.instanceMethod ⟨"RiverIfs$Walk", "mostLonging", "(I)I"⟩ ∈ lw_good := lw_t (i := 495) (by decide +kernel) (by decide +kernel)
theorem ts4 : Cond.selects "RiverIfs$Walk" ⟨"RiverIfs$Walk", "mostLonging", "(I)I"⟩ ⟨"RiverIfs$Walk", "mostLonging", "(I)I"⟩ ∈ lw_good := lw_s (i := 4) (by decide +kernel) (by decide +kernel)
theorem tw493 : Cond.methodLink "RiverIfs$Walk" 122 ⟨"RiverIfs$Walk", "mostLonging", "(I)I"⟩ ∈ lw_good := lw_t (i := 493) (by decide +kernel) (by decide +kernel)
theorem cX10_122 : CV RX10 122 mX10_mostLonging 1 10 := ⟨cmX10_mostLonging _ _, _, _, _, rfl, tw493, tw495, ts4⟩
theorem tw504 : Cond.code ⟨"RiverIfs$Walk", "gainOf", "(I)I"⟩ prog_12_method_5_code 2 (some .int) ∈ lw_good := lw_t (i := 504) (by decide +kernel) (by decide +kernel)
theorem cmX10_gainOf (own : String) (idx : Nat) : CM own idx mX10_gainOf 1 := ⟨⟨by decide +kernel, rfl, by decide⟩, ⟨tw504, tw12⟩, by decide +kernel, by decide +kernel, by decide +kernel⟩
theorem tw502 : Cond.instanceMethod ⟨"RiverIfs$Walk", "gainOf", "(I)I"⟩ ∈ lw_good := lw_t (i := 502) (by decide +kernel) (by decide +kernel)
theorem tw503 : Cond.selects "RiverIfs$Walk" ⟨"RiverIfs$Walk", "gainOf", "(I)I"⟩ ⟨"RiverIfs$Walk", "gainOf", "(I)I"⟩ ∈ lw_good := lw_t (i := 503) (by decide +kernel) (by decide +kernel)
theorem tw501 : Cond.methodLink "RiverIfs$Walk" 125 ⟨"RiverIfs$Walk", "gainOf", "(I)I"⟩ ∈ lw_good := lw_t (i := 501) (by decide +kernel) (by decide +kernel)
theorem cX10_125 : CV RX10 125 mX10_gainOf 1 10 := ⟨cmX10_gainOf _ _, _, _, _, rfl, tw501, tw502, tw503⟩
theorem tw505 : Cond.methodLink "RiverIfs$Walk" 128 ⟨"java/lang/Math", "max", "(II)I"⟩ ∈ lw_good := lw_t (i := 505) (by decide +kernel) (by decide +kernel)
theorem cX10_128 : Cond.methodLink RX10 128 Lib.Math.max.name ∈ lw_good := tw505
theorem tw511 : Cond.code ⟨"RiverIfs$Walk", "lackOf", "(I)I"⟩ prog_12_method_15_code 2 (some .int) ∈ lw_good := lw_t (i := 511) (by decide +kernel) (by decide +kernel)
theorem cmX10_lackOf (own : String) (idx : Nat) : CM own idx mX10_lackOf 1 := ⟨⟨by decide +kernel, rfl, by decide⟩, ⟨tw511, tw12⟩, by decide +kernel, by decide +kernel, by decide +kernel⟩
theorem tw510 : Cond.instanceMethod ⟨"RiverIfs$Walk", "lackOf", "(I)I"⟩ ∈ lw_good := lw_t (i := 510) (by decide +kernel) (by decide +kernel)
theorem ts6 : Cond.selects "RiverIfs$Walk" ⟨"RiverIfs$Walk", "lackOf", "(I)I"⟩ ⟨"RiverIfs$Walk", "lackOf", "(I)I"⟩ ∈ lw_good := lw_s (i := 6) (by decide +kernel) (by decide +kernel)
theorem tw508 : Cond.methodLink "RiverIfs$Walk" 134 ⟨"RiverIfs$Walk", "lackOf", "(I)I"⟩ ∈ lw_good := lw_t (i := 508) (by decide +kernel) (by decide +kernel)
theorem cX10_134 : CV RX10 134 mX10_lackOf 1 10 := ⟨cmX10_lackOf _ _, _, _, _, rfl, tw508, tw510, ts6⟩
theorem tw518 : Cond.methodLink "RiverIfs$Walk" 137 ⟨"java/lang/Math", "min", "(II)I"⟩ ∈ lw_good := lw_t (i := 518) (by decide +kernel) (by decide +kernel)
theorem cX10_137 : Cond.methodLink RX10 137 Lib.Math.min.name ∈ lw_good := tw518
theorem tw512 : Cond.methodLink "RiverIfs$Walk" 140 ⟨"java/lang/Integer", "bitCount", "(I)I"⟩ ∈ lw_good := lw_t (i := 512) (by decide +kernel) (by decide +kernel)
theorem cX10_140 : CS RX10 140 mJ6_bitCount_0f7a4 1 := ⟨cmJ6_bitCount_0f7a4 _ _, tw512, tw513⟩
theorem tw33 : Cond.methodLink "RiverIfs" 1 ⟨"java/lang/Object", "<init>", "()V"⟩ ∈ lw_good := lw_t (i := 33) (by decide +kernel) (by decide +kernel)
theorem cX11_1 : Cond.methodLink RX11 1 Lib.objectInit ∈ lw_good := tw33
theorem tw36 : Cond.classLink "RiverIfs" 7 "RiverIfs$Reader" ∈ lw_good := lw_t (i := 36) (by decide +kernel) (by decide +kernel)
theorem tw37 : Cond.instantiable "RiverIfs$Reader" 4 ∈ lw_good := lw_t (i := 37) (by decide +kernel) (by decide +kernel)
theorem nX11_7 : NW RX11 7 3 4 (fun k => defaultValue (tyX3 k)) := ⟨_, _, tyX3, rfl, inX3, tyX3_ok, fun _ _ => rfl, tw36, tw37, tw2⟩
theorem tw40 : Cond.code ⟨"RiverIfs$Reader", "<init>", "()V"⟩ prog_5_method_1_code 1 (none) ∈ lw_good := lw_t (i := 40) (by decide +kernel) (by decide +kernel)
theorem cmX3_init (own : String) (idx : Nat) : CM own idx mX3_init 0 := ⟨⟨by decide +kernel, rfl, by decide⟩, ⟨tw40, tw2⟩, by decide +kernel, by decide +kernel, by decide +kernel⟩
theorem tw39 : Cond.instanceMethod ⟨"RiverIfs$Reader", "<init>", "()V"⟩ ∈ lw_good := lw_t (i := 39) (by decide +kernel) (by decide +kernel)
theorem cX11_9 : CIN RX11 9 mX3_init 0 := ⟨cmX3_init _ _, rfl, rfl, ⟨"RiverIfs", by decide +kernel⟩, tw39⟩
theorem tw361 : Cond.fieldLink "RiverIfs" 10 "RiverIfs" "reader" "LRiverIfs$Reader;" ∈ lw_good := lw_t (i := 361) (by decide +kernel) (by decide +kernel)
theorem fX11_10 : FL RX11 10 11 0 := ⟨_, _, _, rfl, by decide, inX11, tw361, rfl⟩
theorem tw192 : Cond.classLink "RiverIfs" 16 "RiverIfs$State" ∈ lw_good := lw_t (i := 192) (by decide +kernel) (by decide +kernel)
theorem nX11_16 : NW RX11 16 8 8 (fun k => defaultValue (tyX8 k)) := ⟨_, _, tyX8, rfl, inX8, tyX8_ok, fun _ _ => rfl, tw192, tw193, tw7⟩
theorem cX11_18 : CIN RX11 18 mX8_init 0 := ⟨cmX8_init _ _, rfl, rfl, ⟨"RiverIfs", by decide +kernel⟩, tw195⟩
theorem tw362 : Cond.fieldLink "RiverIfs" 19 "RiverIfs" "now" "LRiverIfs$State;" ∈ lw_good := lw_t (i := 362) (by decide +kernel) (by decide +kernel)
theorem fX11_19 : FL RX11 19 11 1 := ⟨_, _, _, rfl, by decide, inX11, tw362, rfl⟩
theorem tw241 : Cond.classLink "RiverIfs" 23 "RiverIfs$Acts" ∈ lw_good := lw_t (i := 241) (by decide +kernel) (by decide +kernel)
theorem nX11_23 : NW RX11 23 0 3 (fun k => defaultValue (tyX0 k)) := ⟨_, _, tyX0, rfl, inX0, tyX0_ok, fun _ _ => rfl, tw241, tw242, tw8⟩
theorem cX11_25 : CIN RX11 25 mX0_init 0 := ⟨cmX0_init _ _, rfl, rfl, ⟨"RiverIfs", by decide +kernel⟩, tw244⟩
theorem tw363 : Cond.fieldLink "RiverIfs" 26 "RiverIfs" "acts" "LRiverIfs$Acts;" ∈ lw_good := lw_t (i := 363) (by decide +kernel) (by decide +kernel)
theorem fX11_26 : FL RX11 26 11 2 := ⟨_, _, _, rfl, by decide, inX11, tw363, rfl⟩
theorem tw258 : Cond.classLink "RiverIfs" 30 "RiverIfs$Seen" ∈ lw_good := lw_t (i := 258) (by decide +kernel) (by decide +kernel)
theorem nX11_30 : NW RX11 30 5 4 (fun k => defaultValue (tyX5 k)) := ⟨_, _, tyX5, rfl, inX5, tyX5_ok, fun _ _ => rfl, tw258, tw259, tw9⟩
theorem cX11_32 : CIN RX11 32 mX5_init 0 := ⟨cmX5_init _ _, rfl, rfl, ⟨"RiverIfs", by decide +kernel⟩, tw261⟩
theorem tw364 : Cond.fieldLink "RiverIfs" 33 "RiverIfs" "seen" "LRiverIfs$Seen;" ∈ lw_good := lw_t (i := 364) (by decide +kernel) (by decide +kernel)
theorem fX11_33 : FL RX11 33 11 3 := ⟨_, _, _, rfl, by decide, inX11, tw364, rfl⟩
theorem tw365 : Cond.fieldLink "RiverIfs" 37 "RiverIfs" "status" "[I" ∈ lw_good := lw_t (i := 365) (by decide +kernel) (by decide +kernel)
theorem fX11_37 : FL RX11 37 11 4 := ⟨_, _, _, rfl, by decide, inX11, tw365, rfl⟩
theorem tw278 : Cond.classLink "RiverIfs" 41 "RiverIfs$Image" ∈ lw_good := lw_t (i := 278) (by decide +kernel) (by decide +kernel)
theorem tw279 : Cond.instantiable "RiverIfs$Image" 5 ∈ lw_good := lw_t (i := 279) (by decide +kernel) (by decide +kernel)
theorem tw10 : Cond.initialized "RiverIfs$Image" ∈ lw_good := lw_t (i := 10) (by decide +kernel) (by decide +kernel)
theorem nX11_41 : NW RX11 41 2 5 (fun k => defaultValue (tyX2 k)) := ⟨_, _, tyX2, rfl, inX2, tyX2_ok, fun _ _ => rfl, tw278, tw279, tw10⟩
theorem tw282 : Cond.code ⟨"RiverIfs$Image", "<init>", "()V"⟩ prog_4_method_1_code 1 (none) ∈ lw_good := lw_t (i := 282) (by decide +kernel) (by decide +kernel)
theorem cmX2_init (own : String) (idx : Nat) : CM own idx mX2_init 0 := ⟨⟨by decide +kernel, rfl, by decide⟩, ⟨tw282, tw10⟩, by decide +kernel, by decide +kernel, by decide +kernel⟩
theorem tw281 : Cond.instanceMethod ⟨"RiverIfs$Image", "<init>", "()V"⟩ ∈ lw_good := lw_t (i := 281) (by decide +kernel) (by decide +kernel)
theorem cX11_43 : CIN RX11 43 mX2_init 0 := ⟨cmX2_init _ _, rfl, rfl, ⟨"RiverIfs", by decide +kernel⟩, tw281⟩
theorem tw366 : Cond.fieldLink "RiverIfs" 44 "RiverIfs" "kept" "LRiverIfs$Image;" ∈ lw_good := lw_t (i := 366) (by decide +kernel) (by decide +kernel)
theorem fX11_44 : FL RX11 44 11 5 := ⟨_, _, _, rfl, by decide, inX11, tw366, rfl⟩
theorem tw311 : Cond.classLink "RiverIfs" 48 "RiverIfs$Sets" ∈ lw_good := lw_t (i := 311) (by decide +kernel) (by decide +kernel)
theorem tw312 : Cond.instantiable "RiverIfs$Sets" 2 ∈ lw_good := lw_t (i := 312) (by decide +kernel) (by decide +kernel)
theorem nX11_48 : NW RX11 48 6 2 (fun k => defaultValue (tyX6 k)) := ⟨_, _, tyX6, rfl, inX6, tyX6_ok, fun _ _ => rfl, tw311, tw312, tw11⟩
theorem tw315 : Cond.code ⟨"RiverIfs$Sets", "<init>", "()V"⟩ prog_8_method_1_code 1 (none) ∈ lw_good := lw_t (i := 315) (by decide +kernel) (by decide +kernel)
theorem cmX6_init (own : String) (idx : Nat) : CM own idx mX6_init 0 := ⟨⟨by decide +kernel, rfl, by decide⟩, ⟨tw315, tw11⟩, by decide +kernel, by decide +kernel, by decide +kernel⟩
theorem tw314 : Cond.instanceMethod ⟨"RiverIfs$Sets", "<init>", "()V"⟩ ∈ lw_good := lw_t (i := 314) (by decide +kernel) (by decide +kernel)
theorem cX11_50 : CIN RX11 50 mX6_init 0 := ⟨cmX6_init _ _, rfl, rfl, ⟨"RiverIfs", by decide +kernel⟩, tw314⟩
theorem tw367 : Cond.fieldLink "RiverIfs" 51 "RiverIfs" "allSets" "LRiverIfs$Sets;" ∈ lw_good := lw_t (i := 367) (by decide +kernel) (by decide +kernel)
theorem fX11_51 : FL RX11 51 11 6 := ⟨_, _, _, rfl, by decide, inX11, tw367, rfl⟩
theorem tw368 : Cond.fieldLink "RiverIfs" 55 "RiverIfs" "supposed" "[I" ∈ lw_good := lw_t (i := 368) (by decide +kernel) (by decide +kernel)
theorem fX11_55 : FL RX11 55 11 7 := ⟨_, _, _, rfl, by decide, inX11, tw368, rfl⟩
theorem tw371 : Cond.fieldLink "RiverIfs" 58 "RiverIfs" "faultPlace" "I" ∈ lw_good := lw_t (i := 371) (by decide +kernel) (by decide +kernel)
theorem fX11_58 : FL RX11 58 11 10 := ⟨_, _, _, rfl, by decide, inX11, tw371, rfl⟩
theorem tw372 : Cond.fieldLink "RiverIfs" 62 "RiverIfs" "seed" "I" ∈ lw_good := lw_t (i := 372) (by decide +kernel) (by decide +kernel)
theorem fX11_62 : FL RX11 62 11 11 := ⟨_, _, _, rfl, by decide, inX11, tw372, rfl⟩
theorem tw324 : Cond.classLink "RiverIfs" 65 "RiverIfs$Shore" ∈ lw_good := lw_t (i := 324) (by decide +kernel) (by decide +kernel)
theorem nX11_65 : NW RX11 65 7 11 (fun k => defaultValue (tyX7 k)) := ⟨_, _, tyX7, rfl, inX7, tyX7_ok, fun _ _ => rfl, tw324, tw75, tw4⟩
theorem cX11_67 : CIN RX11 67 mX7_init 0 := ⟨cmX7_init _ _, rfl, rfl, ⟨"RiverIfs", by decide +kernel⟩, tw77⟩
theorem tw370 : Cond.fieldLink "RiverIfs" 68 "RiverIfs" "here" "LRiverIfs$Shore;" ∈ lw_good := lw_t (i := 370) (by decide +kernel) (by decide +kernel)
theorem fX11_68 : FL RX11 68 11 9 := ⟨_, _, _, rfl, by decide, inX11, tw370, rfl⟩
theorem tw326 : Cond.classLink "RiverIfs" 72 "RiverIfs$Walk" ∈ lw_good := lw_t (i := 326) (by decide +kernel) (by decide +kernel)
theorem tw327 : Cond.instantiable "RiverIfs$Walk" 8 ∈ lw_good := lw_t (i := 327) (by decide +kernel) (by decide +kernel)
theorem nX11_72 : NW RX11 72 10 8 (fun k => defaultValue (tyX10 k)) := ⟨_, _, tyX10, rfl, inX10, tyX10_ok, fun _ _ => rfl, tw326, tw327, tw12⟩
theorem tw330 : Cond.code ⟨"RiverIfs$Walk", "<init>", "(LRiverIfs$Shore;)V"⟩ prog_12_method_1_code 2 (none) ∈ lw_good := lw_t (i := 330) (by decide +kernel) (by decide +kernel)
theorem cmX10_init (own : String) (idx : Nat) : CM own idx mX10_init 1 := ⟨⟨by decide +kernel, rfl, by decide⟩, ⟨tw330, tw12⟩, by decide +kernel, by decide +kernel, by decide +kernel⟩
theorem tw329 : Cond.instanceMethod ⟨"RiverIfs$Walk", "<init>", "(LRiverIfs$Shore;)V"⟩ ∈ lw_good := lw_t (i := 329) (by decide +kernel) (by decide +kernel)
theorem tw328 : Cond.methodLink "RiverIfs" 74 ⟨"RiverIfs$Walk", "<init>", "(LRiverIfs$Shore;)V"⟩ ∈ lw_good := lw_t (i := 328) (by decide +kernel) (by decide +kernel)
theorem cX11_74 : CI RX11 74 mX10_init 1 := ⟨cmX10_init _ _, rfl, rfl, tw328, tw329⟩
theorem tw369 : Cond.fieldLink "RiverIfs" 77 "RiverIfs" "walk" "LRiverIfs$Walk;" ∈ lw_good := lw_t (i := 369) (by decide +kernel) (by decide +kernel)
theorem fX11_77 : FL RX11 77 11 8 := ⟨_, _, _, rfl, by decide, inX11, tw369, rfl⟩
theorem tw178 : Cond.fieldLink "RiverIfs" 81 "RiverIfs$Reader" "tape" "LRiverIfs$Tape;" ∈ lw_good := lw_t (i := 178) (by decide +kernel) (by decide +kernel)
theorem fX11_81 : FL RX11 81 3 0 := ⟨_, _, _, rfl, by decide, inX3, tw178, rfl⟩
theorem tw53 : Cond.fieldLink "RiverIfs" 85 "RiverIfs$Tape" "size" "I" ∈ lw_good := lw_t (i := 53) (by decide +kernel) (by decide +kernel)
theorem fX11_85 : FL RX11 85 9 4 := ⟨_, _, _, rfl, by decide, inX9, tw53, rfl⟩
theorem tw405 : Cond.code ⟨"RiverIfs$Tape", "put", "(I)V"⟩ prog_11_method_2_code 3 (none) ∈ lw_good := lw_t (i := 405) (by decide +kernel) (by decide +kernel)
theorem cmX9_put (own : String) (idx : Nat) : CM own idx mX9_put 1 := ⟨⟨by decide +kernel, rfl, by decide⟩, ⟨tw405, tw3⟩, by decide +kernel, by decide +kernel, by decide +kernel⟩
theorem tw403 : Cond.instanceMethod ⟨"RiverIfs$Tape", "put", "(I)V"⟩ ∈ lw_good := lw_t (i := 403) (by decide +kernel) (by decide +kernel)
theorem tw404 : Cond.selects "RiverIfs$Tape" ⟨"RiverIfs$Tape", "put", "(I)V"⟩ ⟨"RiverIfs$Tape", "put", "(I)V"⟩ ∈ lw_good := lw_t (i := 404) (by decide +kernel) (by decide +kernel)
theorem tw402 : Cond.methodLink "RiverIfs" 90 ⟨"RiverIfs$Tape", "put", "(I)V"⟩ ∈ lw_good := lw_t (i := 402) (by decide +kernel) (by decide +kernel)
theorem cX11_90 : CV RX11 90 mX9_put 1 9 := ⟨cmX9_put _ _, _, _, _, rfl, tw402, tw403, tw404⟩
theorem tw589 : Cond.code ⟨"RiverIfs", "mustBeWithin", "(III)V"⟩ prog_1_method_63_code 3 (none) ∈ lw_good := lw_t (i := 589) (by decide +kernel) (by decide +kernel)
theorem cmX11_mustBeWithin (own : String) (idx : Nat) : CM own idx mX11_mustBeWithin 3 := ⟨⟨by decide +kernel, rfl, by decide⟩, ⟨tw589, tw1⟩, by decide +kernel, by decide +kernel, by decide +kernel⟩
theorem tw588 : Cond.static ⟨"RiverIfs", "mustBeWithin", "(III)V"⟩ ∈ lw_good := lw_t (i := 588) (by decide +kernel) (by decide +kernel)
theorem tw587 : Cond.methodLink "RiverIfs" 94 ⟨"RiverIfs", "mustBeWithin", "(III)V"⟩ ∈ lw_good := lw_t (i := 587) (by decide +kernel) (by decide +kernel)
theorem cX11_94 : CS RX11 94 mX11_mustBeWithin 3 := ⟨cmX11_mustBeWithin _ _, tw587, tw588⟩
theorem tw659 : Cond.code ⟨"RiverIfs$Reader", "read", "(I)I"⟩ prog_5_method_3_code 3 (some .int) ∈ lw_good := lw_t (i := 659) (by decide +kernel) (by decide +kernel)
theorem cmX3_read (own : String) (idx : Nat) : CM own idx mX3_read 1 := ⟨⟨by decide +kernel, rfl, by decide⟩, ⟨tw659, tw2⟩, by decide +kernel, by decide +kernel, by decide +kernel⟩
theorem tw657 : Cond.instanceMethod ⟨"RiverIfs$Reader", "read", "(I)I"⟩ ∈ lw_good := lw_t (i := 657) (by decide +kernel) (by decide +kernel)
theorem tw658 : Cond.selects "RiverIfs$Reader" ⟨"RiverIfs$Reader", "read", "(I)I"⟩ ⟨"RiverIfs$Reader", "read", "(I)I"⟩ ∈ lw_good := lw_t (i := 658) (by decide +kernel) (by decide +kernel)
theorem tw656 : Cond.methodLink "RiverIfs" 98 ⟨"RiverIfs$Reader", "read", "(I)I"⟩ ∈ lw_good := lw_t (i := 656) (by decide +kernel) (by decide +kernel)
theorem cX11_98 : CV RX11 98 mX3_read 1 3 := ⟨cmX3_read _ _, _, _, _, rfl, tw656, tw657, tw658⟩
theorem tw182 : Cond.fieldLink "RiverIfs" 102 "RiverIfs$Reader" "place" "I" ∈ lw_good := lw_t (i := 182) (by decide +kernel) (by decide +kernel)
theorem fX11_102 : FL RX11 102 3 3 := ⟨_, _, _, rfl, by decide, inX3, tw182, rfl⟩
theorem tw924 : Cond.code ⟨"RiverIfs$Reader", "exchange", "(LRiverIfs$Shore;)LRiverIfs$Shore;"⟩ prog_5_method_2_code 3 (some (.object "RiverIfs$Shore")) ∈ lw_good := lw_t (i := 924) (by decide +kernel) (by decide +kernel)
theorem cmX3_exchange (own : String) (idx : Nat) : CM own idx mX3_exchange 1 := ⟨⟨by decide +kernel, rfl, by decide⟩, ⟨tw924, tw2⟩, by decide +kernel, by decide +kernel, by decide +kernel⟩
theorem tw922 : Cond.instanceMethod ⟨"RiverIfs$Reader", "exchange", "(LRiverIfs$Shore;)LRiverIfs$Shore;"⟩ ∈ lw_good := lw_t (i := 922) (by decide +kernel) (by decide +kernel)
theorem tw923 : Cond.selects "RiverIfs$Reader" ⟨"RiverIfs$Reader", "exchange", "(LRiverIfs$Shore;)LRiverIfs$Shore;"⟩ ⟨"RiverIfs$Reader", "exchange", "(LRiverIfs$Shore;)LRiverIfs$Shore;"⟩ ∈ lw_good := lw_t (i := 923) (by decide +kernel) (by decide +kernel)
theorem tw921 : Cond.methodLink "RiverIfs" 105 ⟨"RiverIfs$Reader", "exchange", "(LRiverIfs$Shore;)LRiverIfs$Shore;"⟩ ∈ lw_good := lw_t (i := 921) (by decide +kernel) (by decide +kernel)
theorem cX11_105 : CV RX11 105 mX3_exchange 1 3 := ⟨cmX3_exchange _ _, _, _, _, rfl, tw921, tw922, tw923⟩
theorem tw928 : Cond.code ⟨"RiverIfs$State", "startFrom", "(LRiverIfs$Shore;)V"⟩ prog_10_method_2_code 2 (none) ∈ lw_good := lw_t (i := 928) (by decide +kernel) (by decide +kernel)
theorem cmX8_startFrom (own : String) (idx : Nat) : CM own idx mX8_startFrom 1 := ⟨⟨by decide +kernel, rfl, by decide⟩, ⟨tw928, tw7⟩, by decide +kernel, by decide +kernel, by decide +kernel⟩
theorem tw926 : Cond.instanceMethod ⟨"RiverIfs$State", "startFrom", "(LRiverIfs$Shore;)V"⟩ ∈ lw_good := lw_t (i := 926) (by decide +kernel) (by decide +kernel)
theorem tw927 : Cond.selects "RiverIfs$State" ⟨"RiverIfs$State", "startFrom", "(LRiverIfs$Shore;)V"⟩ ⟨"RiverIfs$State", "startFrom", "(LRiverIfs$Shore;)V"⟩ ∈ lw_good := lw_t (i := 927) (by decide +kernel) (by decide +kernel)
theorem tw925 : Cond.methodLink "RiverIfs" 109 ⟨"RiverIfs$State", "startFrom", "(LRiverIfs$Shore;)V"⟩ ∈ lw_good := lw_t (i := 925) (by decide +kernel) (by decide +kernel)
theorem cX11_109 : CV RX11 109 mX8_startFrom 1 8 := ⟨cmX8_startFrom _ _, _, _, _, rfl, tw925, tw926, tw927⟩
theorem tw933 : Cond.code ⟨"RiverIfs$Acts", "clear", "()V"⟩ prog_2_method_2_code 1 (none) ∈ lw_good := lw_t (i := 933) (by decide +kernel) (by decide +kernel)
theorem cmX0_clear (own : String) (idx : Nat) : CM own idx mX0_clear 0 := ⟨⟨by decide +kernel, rfl, by decide⟩, ⟨tw933, tw8⟩, by decide +kernel, by decide +kernel, by decide +kernel⟩
theorem tw931 : Cond.instanceMethod ⟨"RiverIfs$Acts", "clear", "()V"⟩ ∈ lw_good := lw_t (i := 931) (by decide +kernel) (by decide +kernel)
theorem tw932 : Cond.selects "RiverIfs$Acts" ⟨"RiverIfs$Acts", "clear", "()V"⟩ ⟨"RiverIfs$Acts", "clear", "()V"⟩ ∈ lw_good := lw_t (i := 932) (by decide +kernel) (by decide +kernel)
theorem tw930 : Cond.methodLink "RiverIfs" 112 ⟨"RiverIfs$Acts", "clear", "()V"⟩ ∈ lw_good := lw_t (i := 930) (by decide +kernel) (by decide +kernel)
theorem cX11_112 : CV RX11 112 mX0_clear 0 0 := ⟨cmX0_clear _ _, _, _, _, rfl, tw930, tw931, tw932⟩
theorem tw559 : Cond.code ⟨"RiverIfs$Seen", "clear", "()V"⟩ prog_7_method_2_code 1 (none) ∈ lw_good := lw_t (i := 559) (by decide +kernel) (by decide +kernel)
theorem cmX5_clear (own : String) (idx : Nat) : CM own idx mX5_clear 0 := ⟨⟨by decide +kernel, rfl, by decide⟩, ⟨tw559, tw9⟩, by decide +kernel, by decide +kernel, by decide +kernel⟩
theorem tw557 : Cond.instanceMethod ⟨"RiverIfs$Seen", "clear", "()V"⟩ ∈ lw_good := lw_t (i := 557) (by decide +kernel) (by decide +kernel)
theorem tw558 : Cond.selects "RiverIfs$Seen" ⟨"RiverIfs$Seen", "clear", "()V"⟩ ⟨"RiverIfs$Seen", "clear", "()V"⟩ ∈ lw_good := lw_t (i := 558) (by decide +kernel) (by decide +kernel)
theorem tw556 : Cond.methodLink "RiverIfs" 115 ⟨"RiverIfs$Seen", "clear", "()V"⟩ ∈ lw_good := lw_t (i := 556) (by decide +kernel) (by decide +kernel)
theorem cX11_115 : CV RX11 115 mX5_clear 0 5 := ⟨cmX5_clear _ _, _, _, _, rfl, tw556, tw557, tw558⟩
theorem tw299 : Cond.fieldLink "RiverIfs" 116 "RiverIfs$Image" "there" "Z" ∈ lw_good := lw_t (i := 299) (by decide +kernel) (by decide +kernel)
theorem fX11_116 : FL RX11 116 2 4 := ⟨_, _, _, rfl, by decide, inX2, tw299, rfl⟩
theorem tw145 : Cond.fieldLink "RiverIfs" 120 "RiverIfs$Shore" "people" "I" ∈ lw_good := lw_t (i := 145) (by decide +kernel) (by decide +kernel)
theorem fX11_120 : FL RX11 120 7 7 := ⟨_, _, _, rfl, by decide, inX7, tw145, rfl⟩
theorem tw130 : Cond.fieldLink "RiverIfs" 123 "RiverIfs$Shore" "ifs" "LRiverIfs$Ifs;" ∈ lw_good := lw_t (i := 130) (by decide +kernel) (by decide +kernel)
theorem fX11_123 : FL RX11 123 7 1 := ⟨_, _, _, rfl, by decide, inX7, tw130, rfl⟩
theorem tw97 : Cond.fieldLink "RiverIfs" 127 "RiverIfs$Ifs" "size" "I" ∈ lw_good := lw_t (i := 97) (by decide +kernel) (by decide +kernel)
theorem fX11_127 : FL RX11 127 1 4 := ⟨_, _, _, rfl, by decide, inX1, tw97, rfl⟩
theorem tw216 : Cond.fieldLink "RiverIfs" 130 "RiverIfs$State" "bears" "I" ∈ lw_good := lw_t (i := 216) (by decide +kernel) (by decide +kernel)
theorem fX11_130 : FL RX11 130 8 5 := ⟨_, _, _, rfl, by decide, inX8, tw216, rfl⟩
theorem tw219 : Cond.fieldLink "RiverIfs" 133 "RiverIfs$State" "sunday" "I" ∈ lw_good := lw_t (i := 219) (by decide +kernel) (by decide +kernel)
theorem fX11_133 : FL RX11 133 8 6 := ⟨_, _, _, rfl, by decide, inX8, tw219, rfl⟩
theorem tw222 : Cond.fieldLink "RiverIfs" 136 "RiverIfs$State" "crossed" "I" ∈ lw_good := lw_t (i := 222) (by decide +kernel) (by decide +kernel)
theorem fX11_136 : FL RX11 136 8 7 := ⟨_, _, _, rfl, by decide, inX8, tw222, rfl⟩
theorem tw213 : Cond.fieldLink "RiverIfs" 139 "RiverIfs$State" "denied" "I" ∈ lw_good := lw_t (i := 213) (by decide +kernel) (by decide +kernel)
theorem fX11_139 : FL RX11 139 8 4 := ⟨_, _, _, rfl, by decide, inX8, tw213, rfl⟩
theorem tw945 : Cond.code ⟨"RiverIfs$Sets", "idleIfs", "(LRiverIfs$Ifs;I)I"⟩ prog_8_method_4_code 8 (some .int) ∈ lw_good := lw_t (i := 945) (by decide +kernel) (by decide +kernel)
theorem cmX6_idleIfs (own : String) (idx : Nat) : CM own idx mX6_idleIfs 2 := ⟨⟨by decide +kernel, rfl, by decide⟩, ⟨tw945, tw11⟩, by decide +kernel, by decide +kernel, by decide +kernel⟩
theorem tw943 : Cond.instanceMethod ⟨"RiverIfs$Sets", "idleIfs", "(LRiverIfs$Ifs;I)I"⟩ ∈ lw_good := lw_t (i := 943) (by decide +kernel) (by decide +kernel)
theorem tw944 : Cond.selects "RiverIfs$Sets" ⟨"RiverIfs$Sets", "idleIfs", "(LRiverIfs$Ifs;I)I"⟩ ⟨"RiverIfs$Sets", "idleIfs", "(LRiverIfs$Ifs;I)I"⟩ ∈ lw_good := lw_t (i := 944) (by decide +kernel) (by decide +kernel)
theorem tw942 : Cond.methodLink "RiverIfs" 142 ⟨"RiverIfs$Sets", "idleIfs", "(LRiverIfs$Ifs;I)I"⟩ ∈ lw_good := lw_t (i := 942) (by decide +kernel) (by decide +kernel)
theorem cX11_142 : CV RX11 142 mX6_idleIfs 2 6 := ⟨cmX6_idleIfs _ _, _, _, _, rfl, tw942, tw943, tw944⟩
theorem tw954 : Cond.code ⟨"RiverIfs$Ifs", "endsOf", "(I)I"⟩ prog_3_method_9_code 5 (some .int) ∈ lw_good := lw_t (i := 954) (by decide +kernel) (by decide +kernel)
theorem cmX1_endsOf (own : String) (idx : Nat) : CM own idx mX1_endsOf 1 := ⟨⟨by decide +kernel, rfl, by decide⟩, ⟨tw954, tw5⟩, by decide +kernel, by decide +kernel, by decide +kernel⟩
theorem tw952 : Cond.instanceMethod ⟨"RiverIfs$Ifs", "endsOf", "(I)I"⟩ ∈ lw_good := lw_t (i := 952) (by decide +kernel) (by decide +kernel)
theorem tw953 : Cond.selects "RiverIfs$Ifs" ⟨"RiverIfs$Ifs", "endsOf", "(I)I"⟩ ⟨"RiverIfs$Ifs", "endsOf", "(I)I"⟩ ∈ lw_good := lw_t (i := 953) (by decide +kernel) (by decide +kernel)
theorem tw951 : Cond.methodLink "RiverIfs" 146 ⟨"RiverIfs$Ifs", "endsOf", "(I)I"⟩ ∈ lw_good := lw_t (i := 951) (by decide +kernel) (by decide +kernel)
theorem cX11_146 : CV RX11 146 mX1_endsOf 1 1 := ⟨cmX1_endsOf _ _, _, _, _, rfl, tw951, tw952, tw953⟩
theorem tw958 : Cond.code ⟨"RiverIfs$Ifs", "shortestRing", "(I)I"⟩ prog_3_method_8_code 5 (some .int) ∈ lw_good := lw_t (i := 958) (by decide +kernel) (by decide +kernel)
theorem cmX1_shortestRing (own : String) (idx : Nat) : CM own idx mX1_shortestRing 1 := ⟨⟨by decide +kernel, rfl, by decide⟩, ⟨tw958, tw5⟩, by decide +kernel, by decide +kernel, by decide +kernel⟩
theorem tw956 : Cond.instanceMethod ⟨"RiverIfs$Ifs", "shortestRing", "(I)I"⟩ ∈ lw_good := lw_t (i := 956) (by decide +kernel) (by decide +kernel)
theorem tw957 : Cond.selects "RiverIfs$Ifs" ⟨"RiverIfs$Ifs", "shortestRing", "(I)I"⟩ ⟨"RiverIfs$Ifs", "shortestRing", "(I)I"⟩ ∈ lw_good := lw_t (i := 957) (by decide +kernel) (by decide +kernel)
theorem tw955 : Cond.methodLink "RiverIfs" 149 ⟨"RiverIfs$Ifs", "shortestRing", "(I)I"⟩ ∈ lw_good := lw_t (i := 955) (by decide +kernel) (by decide +kernel)
theorem cX11_149 : CV RX11 149 mX1_shortestRing 1 1 := ⟨cmX1_shortestRing _ _, _, _, _, rfl, tw955, tw956, tw957⟩
theorem tw250 : Cond.fieldLink "RiverIfs" 152 "RiverIfs$Acts" "size" "I" ∈ lw_good := lw_t (i := 250) (by decide +kernel) (by decide +kernel)
theorem fX11_152 : FL RX11 152 0 2 := ⟨_, _, _, rfl, by decide, inX0, tw250, rfl⟩
theorem tw268 : Cond.fieldLink "RiverIfs" 153 "RiverIfs$Seen" "size" "I" ∈ lw_good := lw_t (i := 268) (by decide +kernel) (by decide +kernel)
theorem fX11_153 : FL RX11 153 5 3 := ⟨_, _, _, rfl, by decide, inX5, tw268, rfl⟩
theorem tw992 : Cond.code ⟨"RiverIfs", "mustBeThing", "(I)V"⟩ prog_1_method_59_code 1 (none) ∈ lw_good := lw_t (i := 992) (by decide +kernel) (by decide +kernel)
theorem cmX11_mustBeThing (own : String) (idx : Nat) : CM own idx mX11_mustBeThing 1 := ⟨⟨by decide +kernel, rfl, by decide⟩, ⟨tw992, tw1⟩, by decide +kernel, by decide +kernel, by decide +kernel⟩
theorem tw991 : Cond.static ⟨"RiverIfs", "mustBeThing", "(I)V"⟩ ∈ lw_good := lw_t (i := 991) (by decide +kernel) (by decide +kernel)
theorem tw990 : Cond.methodLink "RiverIfs" 161 ⟨"RiverIfs", "mustBeThing", "(I)V"⟩ ∈ lw_good := lw_t (i := 990) (by decide +kernel) (by decide +kernel)
theorem cX11_161 : CS RX11 161 mX11_mustBeThing 1 := ⟨cmX11_mustBeThing _ _, tw990, tw991⟩
theorem tw128 : Cond.fieldLink "RiverIfs" 164 "RiverIfs$Shore" "worths" "[I" ∈ lw_good := lw_t (i := 128) (by decide +kernel) (by decide +kernel)
theorem fX11_164 : FL RX11 164 7 0 := ⟨_, _, _, rfl, by decide, inX7, tw128, rfl⟩
theorem tw1004 : Cond.code ⟨"RiverIfs", "mustBeIf", "(I)V"⟩ prog_1_method_60_code 2 (none) ∈ lw_good := lw_t (i := 1004) (by decide +kernel) (by decide +kernel)
theorem cmX11_mustBeIf (own : String) (idx : Nat) : CM own idx mX11_mustBeIf 1 := ⟨⟨by decide +kernel, rfl, by decide⟩, ⟨tw1004, tw1⟩, by decide +kernel, by decide +kernel, by decide +kernel⟩
theorem tw1003 : Cond.instanceMethod ⟨"RiverIfs", "mustBeIf", "(I)V"⟩ ∈ lw_good := lw_t (i := 1003) (by decide +kernel) (by decide +kernel)
theorem ts31 : Cond.selects "RiverIfs" ⟨"RiverIfs", "mustBeIf", "(I)V"⟩ ⟨"RiverIfs", "mustBeIf", "(I)V"⟩ ∈ lw_good := lw_s (i := 31) (by decide +kernel) (by decide +kernel)
theorem tw1001 : Cond.methodLink "RiverIfs" 167 ⟨"RiverIfs", "mustBeIf", "(I)V"⟩ ∈ lw_good := lw_t (i := 1001) (by decide +kernel) (by decide +kernel)
theorem cX11_167 : CV RX11 167 mX11_mustBeIf 1 11 := ⟨cmX11_mustBeIf _ _, _, _, _, rfl, tw1001, tw1003, ts31⟩
theorem tw87 : Cond.fieldLink "RiverIfs" 170 "RiverIfs$Ifs" "needs" "[I" ∈ lw_good := lw_t (i := 87) (by decide +kernel) (by decide +kernel)
theorem fX11_170 : FL RX11 170 1 0 := ⟨_, _, _, rfl, by decide, inX1, tw87, rfl⟩
theorem tw89 : Cond.fieldLink "RiverIfs" 173 "RiverIfs$Ifs" "bars" "[I" ∈ lw_good := lw_t (i := 89) (by decide +kernel) (by decide +kernel)
theorem fX11_173 : FL RX11 173 1 1 := ⟨_, _, _, rfl, by decide, inX1, tw89, rfl⟩
theorem tw92 : Cond.fieldLink "RiverIfs" 176 "RiverIfs$Ifs" "gives" "[I" ∈ lw_good := lw_t (i := 92) (by decide +kernel) (by decide +kernel)
theorem fX11_176 : FL RX11 176 1 2 := ⟨_, _, _, rfl, by decide, inX1, tw92, rfl⟩
theorem tw94 : Cond.fieldLink "RiverIfs" 179 "RiverIfs$Ifs" "unless" "I" ∈ lw_good := lw_t (i := 94) (by decide +kernel) (by decide +kernel)
theorem fX11_179 : FL RX11 179 1 3 := ⟨_, _, _, rfl, by decide, inX1, tw94, rfl⟩
theorem tw1006 : Cond.methodLink "RiverIfs" 182 ⟨"RiverIfs", "isIn", "(II)Z"⟩ ∈ lw_good := lw_t (i := 1006) (by decide +kernel) (by decide +kernel)
theorem cX11_182 : CS RX11 182 mX11_isIn 2 := ⟨cmX11_isIn _ _, tw1006, tw454⟩
theorem tw1018 : Cond.code ⟨"RiverIfs", "mustBePerson", "(I)V"⟩ prog_1_method_61_code 2 (none) ∈ lw_good := lw_t (i := 1018) (by decide +kernel) (by decide +kernel)
theorem cmX11_mustBePerson (own : String) (idx : Nat) : CM own idx mX11_mustBePerson 1 := ⟨⟨by decide +kernel, rfl, by decide⟩, ⟨tw1018, tw1⟩, by decide +kernel, by decide +kernel, by decide +kernel⟩
theorem tw1017 : Cond.instanceMethod ⟨"RiverIfs", "mustBePerson", "(I)V"⟩ ∈ lw_good := lw_t (i := 1017) (by decide +kernel) (by decide +kernel)
theorem ts32 : Cond.selects "RiverIfs" ⟨"RiverIfs", "mustBePerson", "(I)V"⟩ ⟨"RiverIfs", "mustBePerson", "(I)V"⟩ ∈ lw_good := lw_s (i := 32) (by decide +kernel) (by decide +kernel)
theorem tw1015 : Cond.methodLink "RiverIfs" 188 ⟨"RiverIfs", "mustBePerson", "(I)V"⟩ ∈ lw_good := lw_t (i := 1015) (by decide +kernel) (by decide +kernel)
theorem cX11_188 : CV RX11 188 mX11_mustBePerson 1 11 := ⟨cmX11_mustBePerson _ _, _, _, _, rfl, tw1015, tw1017, ts32⟩
theorem tw201 : Cond.fieldLink "RiverIfs" 191 "RiverIfs$State" "has" "[I" ∈ lw_good := lw_t (i := 201) (by decide +kernel) (by decide +kernel)
theorem fX11_191 : FL RX11 191 8 0 := ⟨_, _, _, rfl, by decide, inX8, tw201, rfl⟩
theorem tw205 : Cond.fieldLink "RiverIfs" 194 "RiverIfs$State" "missed" "[I" ∈ lw_good := lw_t (i := 205) (by decide +kernel) (by decide +kernel)
theorem fX11_194 : FL RX11 194 8 1 := ⟨_, _, _, rfl, by decide, inX8, tw205, rfl⟩
theorem tw136 : Cond.fieldLink "RiverIfs" 197 "RiverIfs$Shore" "spared" "[I" ∈ lw_good := lw_t (i := 136) (by decide +kernel) (by decide +kernel)
theorem fX11_197 : FL RX11 197 7 3 := ⟨_, _, _, rfl, by decide, inX7, tw136, rfl⟩
theorem tw207 : Cond.fieldLink "RiverIfs" 200 "RiverIfs$State" "longing" "[I" ∈ lw_good := lw_t (i := 207) (by decide +kernel) (by decide +kernel)
theorem fX11_200 : FL RX11 200 8 2 := ⟨_, _, _, rfl, by decide, inX8, tw207, rfl⟩
theorem tw210 : Cond.fieldLink "RiverIfs" 203 "RiverIfs$State" "flowers" "[I" ∈ lw_good := lw_t (i := 210) (by decide +kernel) (by decide +kernel)
theorem fX11_203 : FL RX11 203 8 3 := ⟨_, _, _, rfl, by decide, inX8, tw210, rfl⟩
theorem tw551 : Cond.methodLink "RiverIfs" 206 ⟨"RiverIfs$Shore", "thereOf", "(LRiverIfs$State;I)I"⟩ ∈ lw_good := lw_t (i := 551) (by decide +kernel) (by decide +kernel)
theorem cX11_206 : CV RX11 206 mX7_thereOf 2 7 := ⟨cmX7_thereOf _ _, _, _, _, rfl, tw551, tw442, tw443⟩
theorem tw1020 : Cond.methodLink "RiverIfs" 210 ⟨"RiverIfs$Shore", "sparedBankOf", "(LRiverIfs$State;I)I"⟩ ∈ lw_good := lw_t (i := 1020) (by decide +kernel) (by decide +kernel)
theorem cX11_210 : CV RX11 210 mX7_sparedBankOf 2 7 := ⟨cmX7_sparedBankOf _ _, _, _, _, rfl, tw1020, tw462, tw463⟩
theorem tw1024 : Cond.code ⟨"RiverIfs", "wantsNext", "(I)Z"⟩ prog_1_method_9_code 2 (some .boolean) ∈ lw_good := lw_t (i := 1024) (by decide +kernel) (by decide +kernel)
theorem cmX11_wantsNext (own : String) (idx : Nat) : CM own idx mX11_wantsNext 1 := ⟨⟨by decide +kernel, rfl, by decide⟩, ⟨tw1024, tw1⟩, by decide +kernel, by decide +kernel, by decide +kernel⟩
theorem tw1023 : Cond.instanceMethod ⟨"RiverIfs", "wantsNext", "(I)Z"⟩ ∈ lw_good := lw_t (i := 1023) (by decide +kernel) (by decide +kernel)
theorem ts33 : Cond.selects "RiverIfs" ⟨"RiverIfs", "wantsNext", "(I)Z"⟩ ⟨"RiverIfs", "wantsNext", "(I)Z"⟩ ∈ lw_good := lw_s (i := 33) (by decide +kernel) (by decide +kernel)
theorem tw1021 : Cond.methodLink "RiverIfs" 213 ⟨"RiverIfs", "wantsNext", "(I)Z"⟩ ∈ lw_good := lw_t (i := 1021) (by decide +kernel) (by decide +kernel)
theorem cX11_213 : CV RX11 213 mX11_wantsNext 1 11 := ⟨cmX11_wantsNext _ _, _, _, _, rfl, tw1021, tw1023, ts33⟩
theorem tw432 : Cond.code ⟨"RiverIfs$Walk", "begin", "(LRiverIfs$Shore;LRiverIfs$State;)V"⟩ prog_12_method_2_code 4 (none) ∈ lw_good := lw_t (i := 432) (by decide +kernel) (by decide +kernel)
theorem cmX10_begin (own : String) (idx : Nat) : CM own idx mX10_begin 2 := ⟨⟨by decide +kernel, rfl, by decide⟩, ⟨tw432, tw12⟩, by decide +kernel, by decide +kernel, by decide +kernel⟩
theorem tw430 : Cond.instanceMethod ⟨"RiverIfs$Walk", "begin", "(LRiverIfs$Shore;LRiverIfs$State;)V"⟩ ∈ lw_good := lw_t (i := 430) (by decide +kernel) (by decide +kernel)
theorem tw431 : Cond.selects "RiverIfs$Walk" ⟨"RiverIfs$Walk", "begin", "(LRiverIfs$Shore;LRiverIfs$State;)V"⟩ ⟨"RiverIfs$Walk", "begin", "(LRiverIfs$Shore;LRiverIfs$State;)V"⟩ ∈ lw_good := lw_t (i := 431) (by decide +kernel) (by decide +kernel)
theorem tw429 : Cond.methodLink "RiverIfs" 219 ⟨"RiverIfs$Walk", "begin", "(LRiverIfs$Shore;LRiverIfs$State;)V"⟩ ∈ lw_good := lw_t (i := 429) (by decide +kernel) (by decide +kernel)
theorem cX11_219 : CV RX11 219 mX10_begin 2 10 := ⟨cmX10_begin _ _, _, _, _, rfl, tw429, tw430, tw431⟩
theorem tw1025 : Cond.methodLink "RiverIfs" 223 ⟨"RiverIfs$Walk", "wants", "(I)Z"⟩ ∈ lw_good := lw_t (i := 1025) (by decide +kernel) (by decide +kernel)
theorem cX11_223 : CV RX11 223 mX10_wants 1 10 := ⟨cmX10_wants _ _, _, _, _, rfl, tw1025, tw474, tw475⟩
theorem tw417 : Cond.code ⟨"RiverIfs", "refuseAct", "()I"⟩ prog_1_method_15_code 1 (some .int) ∈ lw_good := lw_t (i := 417) (by decide +kernel) (by decide +kernel)
theorem cmX11_refuseAct (own : String) (idx : Nat) : CM own idx mX11_refuseAct 0 := ⟨⟨by decide +kernel, rfl, by decide⟩, ⟨tw417, tw1⟩, by decide +kernel, by decide +kernel, by decide +kernel⟩
theorem tw416 : Cond.instanceMethod ⟨"RiverIfs", "refuseAct", "()I"⟩ ∈ lw_good := lw_t (i := 416) (by decide +kernel) (by decide +kernel)
theorem ts0 : Cond.selects "RiverIfs" ⟨"RiverIfs", "refuseAct", "()I"⟩ ⟨"RiverIfs", "refuseAct", "()I"⟩ ∈ lw_good := lw_s (i := 0) (by decide +kernel) (by decide +kernel)
theorem tw414 : Cond.methodLink "RiverIfs" 226 ⟨"RiverIfs", "refuseAct", "()I"⟩ ∈ lw_good := lw_t (i := 414) (by decide +kernel) (by decide +kernel)
theorem cX11_226 : CV RX11 226 mX11_refuseAct 0 11 := ⟨cmX11_refuseAct _ _, _, _, _, rfl, tw414, tw416, ts0⟩
theorem tw421 : Cond.code ⟨"RiverIfs$Acts", "keep", "(LRiverIfs$State;)V"⟩ prog_2_method_3_code 2 (none) ∈ lw_good := lw_t (i := 421) (by decide +kernel) (by decide +kernel)
theorem cmX0_keep (own : String) (idx : Nat) : CM own idx mX0_keep 1 := ⟨⟨by decide +kernel, rfl, by decide⟩, ⟨tw421, tw8⟩, by decide +kernel, by decide +kernel, by decide +kernel⟩
theorem tw419 : Cond.instanceMethod ⟨"RiverIfs$Acts", "keep", "(LRiverIfs$State;)V"⟩ ∈ lw_good := lw_t (i := 419) (by decide +kernel) (by decide +kernel)
theorem tw420 : Cond.selects "RiverIfs$Acts" ⟨"RiverIfs$Acts", "keep", "(LRiverIfs$State;)V"⟩ ⟨"RiverIfs$Acts", "keep", "(LRiverIfs$State;)V"⟩ ∈ lw_good := lw_t (i := 420) (by decide +kernel) (by decide +kernel)
theorem tw418 : Cond.methodLink "RiverIfs" 230 ⟨"RiverIfs$Acts", "keep", "(LRiverIfs$State;)V"⟩ ∈ lw_good := lw_t (i := 418) (by decide +kernel) (by decide +kernel)
theorem cX11_230 : CV RX11 230 mX0_keep 1 0 := ⟨cmX0_keep _ _, _, _, _, rfl, tw418, tw419, tw420⟩
theorem tw468 : Cond.code ⟨"RiverIfs$Walk", "step", "()V"⟩ prog_12_method_7_code 2 (none) ∈ lw_good := lw_t (i := 468) (by decide +kernel) (by decide +kernel)
theorem cmX10_step (own : String) (idx : Nat) : CM own idx mX10_step 0 := ⟨⟨by decide +kernel, rfl, by decide⟩, ⟨tw468, tw12⟩, by decide +kernel, by decide +kernel, by decide +kernel⟩
theorem tw466 : Cond.instanceMethod ⟨"RiverIfs$Walk", "step", "()V"⟩ ∈ lw_good := lw_t (i := 466) (by decide +kernel) (by decide +kernel)
theorem tw467 : Cond.selects "RiverIfs$Walk" ⟨"RiverIfs$Walk", "step", "()V"⟩ ⟨"RiverIfs$Walk", "step", "()V"⟩ ∈ lw_good := lw_t (i := 467) (by decide +kernel) (by decide +kernel)
theorem tw465 : Cond.methodLink "RiverIfs" 234 ⟨"RiverIfs$Walk", "step", "()V"⟩ ∈ lw_good := lw_t (i := 465) (by decide +kernel) (by decide +kernel)
theorem cX11_234 : CV RX11 234 mX10_step 0 10 := ⟨cmX10_step _ _, _, _, _, rfl, tw465, tw466, tw467⟩
theorem tw335 : Cond.fieldLink "RiverIfs" 237 "RiverIfs$Walk" "state" "LRiverIfs$State;" ∈ lw_good := lw_t (i := 335) (by decide +kernel) (by decide +kernel)
theorem fX11_237 : FL RX11 237 10 0 := ⟨_, _, _, rfl, by decide, inX10, tw335, rfl⟩
theorem tw525 : Cond.methodLink "RiverIfs" 240 ⟨"RiverIfs$State", "copyFrom", "(LRiverIfs$State;)V"⟩ ∈ lw_good := lw_t (i := 525) (by decide +kernel) (by decide +kernel)
theorem cX11_240 : CV RX11 240 mX8_copyFrom 1 8 := ⟨cmX8_copyFrom _ _, _, _, _, rfl, tw525, tw434, tw435⟩
theorem tw537 : Cond.code ⟨"RiverIfs$Acts", "takeBack", "(LRiverIfs$State;)Z"⟩ prog_2_method_4_code 2 (some .boolean) ∈ lw_good := lw_t (i := 537) (by decide +kernel) (by decide +kernel)
theorem cmX0_takeBack (own : String) (idx : Nat) : CM own idx mX0_takeBack 1 := ⟨⟨by decide +kernel, rfl, by decide⟩, ⟨tw537, tw8⟩, by decide +kernel, by decide +kernel, by decide +kernel⟩
theorem tw535 : Cond.instanceMethod ⟨"RiverIfs$Acts", "takeBack", "(LRiverIfs$State;)Z"⟩ ∈ lw_good := lw_t (i := 535) (by decide +kernel) (by decide +kernel)
theorem tw536 : Cond.selects "RiverIfs$Acts" ⟨"RiverIfs$Acts", "takeBack", "(LRiverIfs$State;)Z"⟩ ⟨"RiverIfs$Acts", "takeBack", "(LRiverIfs$State;)Z"⟩ ∈ lw_good := lw_t (i := 536) (by decide +kernel) (by decide +kernel)
theorem tw534 : Cond.methodLink "RiverIfs" 243 ⟨"RiverIfs$Acts", "takeBack", "(LRiverIfs$State;)Z"⟩ ∈ lw_good := lw_t (i := 534) (by decide +kernel) (by decide +kernel)
theorem cX11_243 : CV RX11 243 mX0_takeBack 1 0 := ⟨cmX0_takeBack _ _, _, _, _, rfl, tw534, tw535, tw536⟩
theorem tw1064 : Cond.code ⟨"RiverIfs", "mustBeWhat", "(II)V"⟩ prog_1_method_62_code 2 (none) ∈ lw_good := lw_t (i := 1064) (by decide +kernel) (by decide +kernel)
theorem cmX11_mustBeWhat (own : String) (idx : Nat) : CM own idx mX11_mustBeWhat 2 := ⟨⟨by decide +kernel, rfl, by decide⟩, ⟨tw1064, tw1⟩, by decide +kernel, by decide +kernel, by decide +kernel⟩
theorem tw1063 : Cond.static ⟨"RiverIfs", "mustBeWhat", "(II)V"⟩ ∈ lw_good := lw_t (i := 1063) (by decide +kernel) (by decide +kernel)
theorem tw1062 : Cond.methodLink "RiverIfs" 247 ⟨"RiverIfs", "mustBeWhat", "(II)V"⟩ ∈ lw_good := lw_t (i := 1062) (by decide +kernel) (by decide +kernel)
theorem cX11_247 : CS RX11 247 mX11_mustBeWhat 2 := ⟨cmX11_mustBeWhat _ _, tw1062, tw1063⟩
theorem tw1083 : Cond.code ⟨"RiverIfs$Walk", "leftBehind", "()I"⟩ prog_12_method_8_code 1 (some .int) ∈ lw_good := lw_t (i := 1083) (by decide +kernel) (by decide +kernel)
theorem cmX10_leftBehind (own : String) (idx : Nat) : CM own idx mX10_leftBehind 0 := ⟨⟨by decide +kernel, rfl, by decide⟩, ⟨tw1083, tw12⟩, by decide +kernel, by decide +kernel, by decide +kernel⟩
theorem tw1081 : Cond.instanceMethod ⟨"RiverIfs$Walk", "leftBehind", "()I"⟩ ∈ lw_good := lw_t (i := 1081) (by decide +kernel) (by decide +kernel)
theorem tw1082 : Cond.selects "RiverIfs$Walk" ⟨"RiverIfs$Walk", "leftBehind", "()I"⟩ ⟨"RiverIfs$Walk", "leftBehind", "()I"⟩ ∈ lw_good := lw_t (i := 1082) (by decide +kernel) (by decide +kernel)
theorem tw1080 : Cond.methodLink "RiverIfs" 251 ⟨"RiverIfs$Walk", "leftBehind", "()I"⟩ ∈ lw_good := lw_t (i := 1080) (by decide +kernel) (by decide +kernel)
theorem cX11_251 : CV RX11 251 mX10_leftBehind 0 10 := ⟨cmX10_leftBehind _ _, _, _, _, rfl, tw1080, tw1081, tw1082⟩
theorem tw1094 : Cond.code ⟨"RiverIfs", "somebodyWaits", "(II)Z"⟩ prog_1_method_22_code 4 (some .boolean) ∈ lw_good := lw_t (i := 1094) (by decide +kernel) (by decide +kernel)
theorem cmX11_somebodyWaits (own : String) (idx : Nat) : CM own idx mX11_somebodyWaits 2 := ⟨⟨by decide +kernel, rfl, by decide⟩, ⟨tw1094, tw1⟩, by decide +kernel, by decide +kernel, by decide +kernel⟩
theorem tw1093 : Cond.instanceMethod ⟨"RiverIfs", "somebodyWaits", "(II)Z"⟩ ∈ lw_good := lw_t (i := 1093) (by decide +kernel) (by decide +kernel)
theorem ts34 : Cond.selects "RiverIfs" ⟨"RiverIfs", "somebodyWaits", "(II)Z"⟩ ⟨"RiverIfs", "somebodyWaits", "(II)Z"⟩ ∈ lw_good := lw_s (i := 34) (by decide +kernel) (by decide +kernel)
theorem tw1091 : Cond.methodLink "RiverIfs" 254 ⟨"RiverIfs", "somebodyWaits", "(II)Z"⟩ ∈ lw_good := lw_t (i := 1091) (by decide +kernel) (by decide +kernel)
theorem cX11_254 : CV RX11 254 mX11_somebodyWaits 2 11 := ⟨cmX11_somebodyWaits _ _, _, _, _, rfl, tw1091, tw1093, ts34⟩
theorem tw1136 : Cond.methodLink "RiverIfs" 257 ⟨"java/lang/Integer", "bitCount", "(I)I"⟩ ∈ lw_good := lw_t (i := 1136) (by decide +kernel) (by decide +kernel)
theorem cX11_257 : CS RX11 257 mJ6_bitCount_0f7a4 1 := ⟨cmJ6_bitCount_0f7a4 _ _, tw1136, tw513⟩
theorem tw1102 : Cond.methodLink "RiverIfs" 262 ⟨"RiverIfs$Ifs", "allFrom", "(II)I"⟩ ∈ lw_good := lw_t (i := 1102) (by decide +kernel) (by decide +kernel)
theorem cX11_262 : CV RX11 262 mX1_allFrom 2 1 := ⟨cmX1_allFrom _ _, _, _, _, rfl, tw1102, tw446, tw447⟩
theorem tw1113 : Cond.code ⟨"RiverIfs$Sets", "fewestSteps", "(LRiverIfs$Ifs;III)I"⟩ prog_8_method_5_code 8 (some .int) ∈ lw_good := lw_t (i := 1113) (by decide +kernel) (by decide +kernel)
theorem cmX6_fewestSteps (own : String) (idx : Nat) : CM own idx mX6_fewestSteps 4 := ⟨⟨by decide +kernel, rfl, by decide⟩, ⟨tw1113, tw11⟩, by decide +kernel, by decide +kernel, by decide +kernel⟩
theorem tw1111 : Cond.instanceMethod ⟨"RiverIfs$Sets", "fewestSteps", "(LRiverIfs$Ifs;III)I"⟩ ∈ lw_good := lw_t (i := 1111) (by decide +kernel) (by decide +kernel)
theorem tw1112 : Cond.selects "RiverIfs$Sets" ⟨"RiverIfs$Sets", "fewestSteps", "(LRiverIfs$Ifs;III)I"⟩ ⟨"RiverIfs$Sets", "fewestSteps", "(LRiverIfs$Ifs;III)I"⟩ ∈ lw_good := lw_t (i := 1112) (by decide +kernel) (by decide +kernel)
theorem tw1110 : Cond.methodLink "RiverIfs" 266 ⟨"RiverIfs$Sets", "fewestSteps", "(LRiverIfs$Ifs;III)I"⟩ ∈ lw_good := lw_t (i := 1110) (by decide +kernel) (by decide +kernel)
theorem cX11_266 : CV RX11 266 mX6_fewestSteps 4 6 := ⟨cmX6_fewestSteps _ _, _, _, _, rfl, tw1110, tw1111, tw1112⟩
theorem tw1144 : Cond.methodLink "RiverIfs" 270 ⟨"RiverIfs$Ifs", "stepsTo", "(III)I"⟩ ∈ lw_good := lw_t (i := 1144) (by decide +kernel) (by decide +kernel)
theorem cX11_270 : CV RX11 270 mX1_stepsTo 3 1 := ⟨cmX1_stepsTo _ _, _, _, _, rfl, tw1144, tw960, tw961⟩
theorem tw546 : Cond.methodLink "RiverIfs" 274 ⟨"RiverIfs$Ifs", "firstBringing", "(III)I"⟩ ∈ lw_good := lw_t (i := 546) (by decide +kernel) (by decide +kernel)
theorem cX11_274 : CV RX11 274 mX1_firstBringing 3 1 := ⟨cmX1_firstBringing _ _, _, _, _, rfl, tw546, tw450, tw451⟩
theorem tw1217 : Cond.code ⟨"RiverIfs$Sets", "howManyBring", "(LRiverIfs$Ifs;II)I"⟩ prog_8_method_3_code 6 (some .int) ∈ lw_good := lw_t (i := 1217) (by decide +kernel) (by decide +kernel)
theorem cmX6_howManyBring (own : String) (idx : Nat) : CM own idx mX6_howManyBring 3 := ⟨⟨by decide +kernel, rfl, by decide⟩, ⟨tw1217, tw11⟩, by decide +kernel, by decide +kernel, by decide +kernel⟩
theorem tw1215 : Cond.instanceMethod ⟨"RiverIfs$Sets", "howManyBring", "(LRiverIfs$Ifs;II)I"⟩ ∈ lw_good := lw_t (i := 1215) (by decide +kernel) (by decide +kernel)
theorem tw1216 : Cond.selects "RiverIfs$Sets" ⟨"RiverIfs$Sets", "howManyBring", "(LRiverIfs$Ifs;II)I"⟩ ⟨"RiverIfs$Sets", "howManyBring", "(LRiverIfs$Ifs;II)I"⟩ ∈ lw_good := lw_t (i := 1216) (by decide +kernel) (by decide +kernel)
theorem tw1214 : Cond.methodLink "RiverIfs" 277 ⟨"RiverIfs$Sets", "howManyBring", "(LRiverIfs$Ifs;II)I"⟩ ∈ lw_good := lw_t (i := 1214) (by decide +kernel) (by decide +kernel)
theorem cX11_277 : CV RX11 277 mX6_howManyBring 3 6 := ⟨cmX6_howManyBring _ _, _, _, _, rfl, tw1214, tw1215, tw1216⟩
theorem tw1162 : Cond.code ⟨"RiverIfs$Walk", "thereOfAll", "(I)I"⟩ prog_12_method_6_code 4 (some .int) ∈ lw_good := lw_t (i := 1162) (by decide +kernel) (by decide +kernel)
theorem cmX10_thereOfAll (own : String) (idx : Nat) : CM own idx mX10_thereOfAll 1 := ⟨⟨by decide +kernel, rfl, by decide⟩, ⟨tw1162, tw12⟩, by decide +kernel, by decide +kernel, by decide +kernel⟩
theorem tw1160 : Cond.instanceMethod ⟨"RiverIfs$Walk", "thereOfAll", "(I)I"⟩ ∈ lw_good := lw_t (i := 1160) (by decide +kernel) (by decide +kernel)
theorem tw1161 : Cond.selects "RiverIfs$Walk" ⟨"RiverIfs$Walk", "thereOfAll", "(I)I"⟩ ⟨"RiverIfs$Walk", "thereOfAll", "(I)I"⟩ ∈ lw_good := lw_t (i := 1161) (by decide +kernel) (by decide +kernel)
theorem tw1159 : Cond.methodLink "RiverIfs" 281 ⟨"RiverIfs$Walk", "thereOfAll", "(I)I"⟩ ∈ lw_good := lw_t (i := 1159) (by decide +kernel) (by decide +kernel)
theorem cX11_281 : CV RX11 281 mX10_thereOfAll 1 10 := ⟨cmX10_thereOfAll _ _, _, _, _, rfl, tw1159, tw1160, tw1161⟩
theorem tw1173 : Cond.code ⟨"RiverIfs", "bankOf", "(II)I"⟩ prog_1_method_37_code 3 (some .int) ∈ lw_good := lw_t (i := 1173) (by decide +kernel) (by decide +kernel)
theorem cmX11_bankOf (own : String) (idx : Nat) : CM own idx mX11_bankOf 2 := ⟨⟨by decide +kernel, rfl, by decide⟩, ⟨tw1173, tw1⟩, by decide +kernel, by decide +kernel, by decide +kernel⟩
theorem tw1172 : Cond.instanceMethod ⟨"RiverIfs", "bankOf", "(II)I"⟩ ∈ lw_good := lw_t (i := 1172) (by decide +kernel) (by decide +kernel)
theorem ts36 : Cond.selects "RiverIfs" ⟨"RiverIfs", "bankOf", "(II)I"⟩ ⟨"RiverIfs", "bankOf", "(II)I"⟩ ∈ lw_good := lw_s (i := 36) (by decide +kernel) (by decide +kernel)
theorem tw1170 : Cond.methodLink "RiverIfs" 284 ⟨"RiverIfs", "bankOf", "(II)I"⟩ ∈ lw_good := lw_t (i := 1170) (by decide +kernel) (by decide +kernel)
theorem cX11_284 : CV RX11 284 mX11_bankOf 2 11 := ⟨cmX11_bankOf _ _, _, _, _, rfl, tw1170, tw1172, ts36⟩
theorem tw1174 : Cond.methodLink "RiverIfs" 287 ⟨"RiverIfs$Shore", "worthOf", "(I)I"⟩ ∈ lw_good := lw_t (i := 1174) (by decide +kernel) (by decide +kernel)
theorem cX11_287 : CV RX11 287 mX7_worthOf 1 7 := ⟨cmX7_worthOf _ _, _, _, _, rfl, tw1174, tw457, tw458⟩
theorem tw1192 : Cond.code ⟨"RiverIfs", "supposeEachMissed", "(I)V"⟩ prog_1_method_47_code 3 (none) ∈ lw_good := lw_t (i := 1192) (by decide +kernel) (by decide +kernel)
theorem cmX11_supposeEachMissed (own : String) (idx : Nat) : CM own idx mX11_supposeEachMissed 1 := ⟨⟨by decide +kernel, rfl, by decide⟩, ⟨tw1192, tw1⟩, by decide +kernel, by decide +kernel, by decide +kernel⟩
theorem tw1191 : Cond.instanceMethod ⟨"RiverIfs", "supposeEachMissed", "(I)V"⟩ ∈ lw_good := lw_t (i := 1191) (by decide +kernel) (by decide +kernel)
theorem ts37 : Cond.selects "RiverIfs" ⟨"RiverIfs", "supposeEachMissed", "(I)V"⟩ ⟨"RiverIfs", "supposeEachMissed", "(I)V"⟩ ∈ lw_good := lw_s (i := 37) (by decide +kernel) (by decide +kernel)
theorem tw1189 : Cond.methodLink "RiverIfs" 290 ⟨"RiverIfs", "supposeEachMissed", "(I)V"⟩ ∈ lw_good := lw_t (i := 1189) (by decide +kernel) (by decide +kernel)
theorem cX11_290 : CV RX11 290 mX11_supposeEachMissed 1 11 := ⟨cmX11_supposeEachMissed _ _, _, _, _, rfl, tw1189, tw1191, ts37⟩
theorem tw1256 : Cond.code ⟨"RiverIfs$Seen", "put", "(IIZ)Z"⟩ prog_7_method_3_code 4 (some .boolean) ∈ lw_good := lw_t (i := 1256) (by decide +kernel) (by decide +kernel)
theorem cmX5_put (own : String) (idx : Nat) : CM own idx mX5_put 3 := ⟨⟨by decide +kernel, rfl, by decide⟩, ⟨tw1256, tw9⟩, by decide +kernel, by decide +kernel, by decide +kernel⟩
theorem tw1254 : Cond.instanceMethod ⟨"RiverIfs$Seen", "put", "(IIZ)Z"⟩ ∈ lw_good := lw_t (i := 1254) (by decide +kernel) (by decide +kernel)
theorem tw1255 : Cond.selects "RiverIfs$Seen" ⟨"RiverIfs$Seen", "put", "(IIZ)Z"⟩ ⟨"RiverIfs$Seen", "put", "(IIZ)Z"⟩ ∈ lw_good := lw_t (i := 1255) (by decide +kernel) (by decide +kernel)
theorem tw1253 : Cond.methodLink "RiverIfs" 293 ⟨"RiverIfs$Seen", "put", "(IIZ)Z"⟩ ∈ lw_good := lw_t (i := 1253) (by decide +kernel) (by decide +kernel)
theorem cX11_293 : CV RX11 293 mX5_put 3 5 := ⟨cmX5_put _ _, _, _, _, rfl, tw1253, tw1254, tw1255⟩
theorem tw1267 : Cond.code ⟨"RiverIfs", "thatAgree", "(I)I"⟩ prog_1_method_48_code 4 (some .int) ∈ lw_good := lw_t (i := 1267) (by decide +kernel) (by decide +kernel)
theorem cmX11_thatAgree (own : String) (idx : Nat) : CM own idx mX11_thatAgree 1 := ⟨⟨by decide +kernel, rfl, by decide⟩, ⟨tw1267, tw1⟩, by decide +kernel, by decide +kernel, by decide +kernel⟩
theorem tw1266 : Cond.instanceMethod ⟨"RiverIfs", "thatAgree", "(I)I"⟩ ∈ lw_good := lw_t (i := 1266) (by decide +kernel) (by decide +kernel)
theorem ts38 : Cond.selects "RiverIfs" ⟨"RiverIfs", "thatAgree", "(I)I"⟩ ⟨"RiverIfs", "thatAgree", "(I)I"⟩ ∈ lw_good := lw_s (i := 38) (by decide +kernel) (by decide +kernel)
theorem tw1264 : Cond.methodLink "RiverIfs" 296 ⟨"RiverIfs", "thatAgree", "(I)I"⟩ ∈ lw_good := lw_t (i := 1264) (by decide +kernel) (by decide +kernel)
theorem cX11_296 : CV RX11 296 mX11_thatAgree 1 11 := ⟨cmX11_thatAgree _ _, _, _, _, rfl, tw1264, tw1266, ts38⟩
theorem tw1283 : Cond.code ⟨"RiverIfs", "howManyWith", "(II)I"⟩ prog_1_method_49_code 5 (some .int) ∈ lw_good := lw_t (i := 1283) (by decide +kernel) (by decide +kernel)
theorem cmX11_howManyWith (own : String) (idx : Nat) : CM own idx mX11_howManyWith 2 := ⟨⟨by decide +kernel, rfl, by decide⟩, ⟨tw1283, tw1⟩, by decide +kernel, by decide +kernel, by decide +kernel⟩
theorem tw1282 : Cond.instanceMethod ⟨"RiverIfs", "howManyWith", "(II)I"⟩ ∈ lw_good := lw_t (i := 1282) (by decide +kernel) (by decide +kernel)
theorem ts39 : Cond.selects "RiverIfs" ⟨"RiverIfs", "howManyWith", "(II)I"⟩ ⟨"RiverIfs", "howManyWith", "(II)I"⟩ ∈ lw_good := lw_s (i := 39) (by decide +kernel) (by decide +kernel)
theorem tw1280 : Cond.methodLink "RiverIfs" 299 ⟨"RiverIfs", "howManyWith", "(II)I"⟩ ∈ lw_good := lw_t (i := 1280) (by decide +kernel) (by decide +kernel)
theorem cX11_299 : CV RX11 299 mX11_howManyWith 2 11 := ⟨cmX11_howManyWith _ _, _, _, _, rfl, tw1280, tw1282, ts39⟩
theorem tw1284 : Cond.methodLink "RiverIfs" 302 ⟨"java/lang/Math", "min", "(II)I"⟩ ∈ lw_good := lw_t (i := 1284) (by decide +kernel) (by decide +kernel)
theorem cX11_302 : Cond.methodLink RX11 302 Lib.Math.min.name ∈ lw_good := tw1284
theorem tw1271 : Cond.code ⟨"RiverIfs$Seen", "agrees", "(II)Z"⟩ prog_7_method_4_code 4 (some .boolean) ∈ lw_good := lw_t (i := 1271) (by decide +kernel) (by decide +kernel)
theorem cmX5_agrees (own : String) (idx : Nat) : CM own idx mX5_agrees 2 := ⟨⟨by decide +kernel, rfl, by decide⟩, ⟨tw1271, tw9⟩, by decide +kernel, by decide +kernel, by decide +kernel⟩
theorem tw1269 : Cond.instanceMethod ⟨"RiverIfs$Seen", "agrees", "(II)Z"⟩ ∈ lw_good := lw_t (i := 1269) (by decide +kernel) (by decide +kernel)
theorem tw1270 : Cond.selects "RiverIfs$Seen" ⟨"RiverIfs$Seen", "agrees", "(II)Z"⟩ ⟨"RiverIfs$Seen", "agrees", "(II)Z"⟩ ∈ lw_good := lw_t (i := 1270) (by decide +kernel) (by decide +kernel)
theorem tw1268 : Cond.methodLink "RiverIfs" 307 ⟨"RiverIfs$Seen", "agrees", "(II)Z"⟩ ∈ lw_good := lw_t (i := 1268) (by decide +kernel) (by decide +kernel)
theorem cX11_307 : CV RX11 307 mX5_agrees 2 5 := ⟨cmX5_agrees _ _, _, _, _, rfl, tw1268, tw1269, tw1270⟩
theorem tw337 : Cond.fieldLink "RiverIfs" 315 "RiverIfs$Walk" "there" "[I" ∈ lw_good := lw_t (i := 337) (by decide +kernel) (by decide +kernel)
theorem fX11_315 : FL RX11 315 10 1 := ⟨_, _, _, rfl, by decide, inX10, tw337, rfl⟩
theorem tw1293 : Cond.methodLink "RiverIfs" 317 ⟨"RiverIfs$Walk", "gainOf", "(I)I"⟩ ∈ lw_good := lw_t (i := 1293) (by decide +kernel) (by decide +kernel)
theorem cX11_317 : CV RX11 317 mX10_gainOf 1 10 := ⟨cmX10_gainOf _ _, _, _, _, rfl, tw1293, tw502, tw503⟩
theorem tw1296 : Cond.code ⟨"RiverIfs", "isContent", "(IIII)Z"⟩ prog_1_method_51_code 4 (some .boolean) ∈ lw_good := lw_t (i := 1296) (by decide +kernel) (by decide +kernel)
theorem cmX11_isContent (own : String) (idx : Nat) : CM own idx mX11_isContent 4 := ⟨⟨by decide +kernel, rfl, by decide⟩, ⟨tw1296, tw1⟩, by decide +kernel, by decide +kernel, by decide +kernel⟩
theorem tw1295 : Cond.static ⟨"RiverIfs", "isContent", "(IIII)Z"⟩ ∈ lw_good := lw_t (i := 1295) (by decide +kernel) (by decide +kernel)
theorem tw1294 : Cond.methodLink "RiverIfs" 320 ⟨"RiverIfs", "isContent", "(IIII)Z"⟩ ∈ lw_good := lw_t (i := 1294) (by decide +kernel) (by decide +kernel)
theorem cX11_320 : CS RX11 320 mX11_isContent 4 := ⟨cmX11_isContent _ _, tw1294, tw1295⟩
theorem tw1299 : Cond.code ⟨"RiverIfs", "gained", "(IIII)I"⟩ prog_1_method_52_code 4 (some .int) ∈ lw_good := lw_t (i := 1299) (by decide +kernel) (by decide +kernel)
theorem cmX11_gained (own : String) (idx : Nat) : CM own idx mX11_gained 4 := ⟨⟨by decide +kernel, rfl, by decide⟩, ⟨tw1299, tw1⟩, by decide +kernel, by decide +kernel, by decide +kernel⟩
theorem tw1298 : Cond.static ⟨"RiverIfs", "gained", "(IIII)I"⟩ ∈ lw_good := lw_t (i := 1298) (by decide +kernel) (by decide +kernel)
theorem tw1297 : Cond.methodLink "RiverIfs" 324 ⟨"RiverIfs", "gained", "(IIII)I"⟩ ∈ lw_good := lw_t (i := 1297) (by decide +kernel) (by decide +kernel)
theorem cX11_324 : CS RX11 324 mX11_gained 4 := ⟨cmX11_gained _ _, tw1297, tw1298⟩
theorem tw1310 : Cond.code ⟨"RiverIfs", "drawAhead", "()V"⟩ prog_1_method_54_code 4 (none) ∈ lw_good := lw_t (i := 1310) (by decide +kernel) (by decide +kernel)
theorem cmX11_drawAhead (own : String) (idx : Nat) : CM own idx mX11_drawAhead 0 := ⟨⟨by decide +kernel, rfl, by decide⟩, ⟨tw1310, tw1⟩, by decide +kernel, by decide +kernel, by decide +kernel⟩
theorem tw1309 : Cond.instanceMethod ⟨"RiverIfs", "drawAhead", "()V"⟩ ∈ lw_good := lw_t (i := 1309) (by decide +kernel) (by decide +kernel)
theorem ts40 : Cond.selects "RiverIfs" ⟨"RiverIfs", "drawAhead", "()V"⟩ ⟨"RiverIfs", "drawAhead", "()V"⟩ ∈ lw_good := lw_s (i := 40) (by decide +kernel) (by decide +kernel)
theorem tw1307 : Cond.methodLink "RiverIfs" 328 ⟨"RiverIfs", "drawAhead", "()V"⟩ ∈ lw_good := lw_t (i := 1307) (by decide +kernel) (by decide +kernel)
theorem cX11_328 : CV RX11 328 mX11_drawAhead 0 11 := ⟨cmX11_drawAhead _ _, _, _, _, rfl, tw1307, tw1309, ts40⟩
theorem tw1323 : Cond.code ⟨"RiverIfs", "totalOf", "([I)I"⟩ prog_1_method_56_code 4 (some .int) ∈ lw_good := lw_t (i := 1323) (by decide +kernel) (by decide +kernel)
theorem cmX11_totalOf (own : String) (idx : Nat) : CM own idx mX11_totalOf 1 := ⟨⟨by decide +kernel, rfl, by decide⟩, ⟨tw1323, tw1⟩, by decide +kernel, by decide +kernel, by decide +kernel⟩
theorem tw1322 : Cond.instanceMethod ⟨"RiverIfs", "totalOf", "([I)I"⟩ ∈ lw_good := lw_t (i := 1322) (by decide +kernel) (by decide +kernel)
theorem ts42 : Cond.selects "RiverIfs" ⟨"RiverIfs", "totalOf", "([I)I"⟩ ⟨"RiverIfs", "totalOf", "([I)I"⟩ ∈ lw_good := lw_s (i := 42) (by decide +kernel) (by decide +kernel)
theorem tw1320 : Cond.methodLink "RiverIfs" 331 ⟨"RiverIfs", "totalOf", "([I)I"⟩ ∈ lw_good := lw_t (i := 1320) (by decide +kernel) (by decide +kernel)
theorem cX11_331 : CV RX11 331 mX11_totalOf 1 11 := ⟨cmX11_totalOf _ _, _, _, _, rfl, tw1320, tw1322, ts42⟩
theorem tw1314 : Cond.code ⟨"RiverIfs", "draw", "(I)I"⟩ prog_1_method_55_code 2 (some .int) ∈ lw_good := lw_t (i := 1314) (by decide +kernel) (by decide +kernel)
theorem cmX11_draw (own : String) (idx : Nat) : CM own idx mX11_draw 1 := ⟨⟨by decide +kernel, rfl, by decide⟩, ⟨tw1314, tw1⟩, by decide +kernel, by decide +kernel, by decide +kernel⟩
theorem tw1313 : Cond.instanceMethod ⟨"RiverIfs", "draw", "(I)I"⟩ ∈ lw_good := lw_t (i := 1313) (by decide +kernel) (by decide +kernel)
theorem ts41 : Cond.selects "RiverIfs" ⟨"RiverIfs", "draw", "(I)I"⟩ ⟨"RiverIfs", "draw", "(I)I"⟩ ∈ lw_good := lw_s (i := 41) (by decide +kernel) (by decide +kernel)
theorem tw1311 : Cond.methodLink "RiverIfs" 335 ⟨"RiverIfs", "draw", "(I)I"⟩ ∈ lw_good := lw_t (i := 1311) (by decide +kernel) (by decide +kernel)
theorem cX11_335 : CV RX11 335 mX11_draw 1 11 := ⟨cmX11_draw _ _, _, _, _, rfl, tw1311, tw1313, ts41⟩
theorem tw1319 : Cond.code ⟨"RiverIfs$Walk", "change", "(III)V"⟩ prog_12_method_4_code 4 (none) ∈ lw_good := lw_t (i := 1319) (by decide +kernel) (by decide +kernel)
theorem cmX10_change (own : String) (idx : Nat) : CM own idx mX10_change 3 := ⟨⟨by decide +kernel, rfl, by decide⟩, ⟨tw1319, tw12⟩, by decide +kernel, by decide +kernel, by decide +kernel⟩
theorem tw1317 : Cond.instanceMethod ⟨"RiverIfs$Walk", "change", "(III)V"⟩ ∈ lw_good := lw_t (i := 1317) (by decide +kernel) (by decide +kernel)
theorem tw1318 : Cond.selects "RiverIfs$Walk" ⟨"RiverIfs$Walk", "change", "(III)V"⟩ ⟨"RiverIfs$Walk", "change", "(III)V"⟩ ∈ lw_good := lw_t (i := 1318) (by decide +kernel) (by decide +kernel)
theorem tw1316 : Cond.methodLink "RiverIfs" 338 ⟨"RiverIfs$Walk", "change", "(III)V"⟩ ∈ lw_good := lw_t (i := 1316) (by decide +kernel) (by decide +kernel)
theorem cX11_338 : CV RX11 338 mX10_change 3 10 := ⟨cmX10_change _ _, _, _, _, rfl, tw1316, tw1317, tw1318⟩
theorem lX11_341 : Cond.constant "RiverIfs" 341 (1103515245) ∈ lw_good := lw_t (i := 1315) (by decide +kernel) (by decide +kernel)
theorem tw291 : Cond.fieldLink "RiverIfs" 342 "RiverIfs$Image" "state" "LRiverIfs$State;" ∈ lw_good := lw_t (i := 291) (by decide +kernel) (by decide +kernel)
theorem fX11_342 : FL RX11 342 2 0 := ⟨_, _, _, rfl, by decide, inX2, tw291, rfl⟩
theorem tw293 : Cond.fieldLink "RiverIfs" 343 "RiverIfs$Image" "acts" "LRiverIfs$Acts;" ∈ lw_good := lw_t (i := 293) (by decide +kernel) (by decide +kernel)
theorem fX11_343 : FL RX11 343 2 1 := ⟨_, _, _, rfl, by decide, inX2, tw293, rfl⟩
theorem tw567 : Cond.code ⟨"RiverIfs$Acts", "copyFrom", "(LRiverIfs$Acts;)V"⟩ prog_2_method_5_code 2 (none) ∈ lw_good := lw_t (i := 567) (by decide +kernel) (by decide +kernel)
theorem cmX0_copyFrom (own : String) (idx : Nat) : CM own idx mX0_copyFrom 1 := ⟨⟨by decide +kernel, rfl, by decide⟩, ⟨tw567, tw8⟩, by decide +kernel, by decide +kernel, by decide +kernel⟩
theorem tw565 : Cond.instanceMethod ⟨"RiverIfs$Acts", "copyFrom", "(LRiverIfs$Acts;)V"⟩ ∈ lw_good := lw_t (i := 565) (by decide +kernel) (by decide +kernel)
theorem tw566 : Cond.selects "RiverIfs$Acts" ⟨"RiverIfs$Acts", "copyFrom", "(LRiverIfs$Acts;)V"⟩ ⟨"RiverIfs$Acts", "copyFrom", "(LRiverIfs$Acts;)V"⟩ ∈ lw_good := lw_t (i := 566) (by decide +kernel) (by decide +kernel)
theorem tw564 : Cond.methodLink "RiverIfs" 344 ⟨"RiverIfs$Acts", "copyFrom", "(LRiverIfs$Acts;)V"⟩ ∈ lw_good := lw_t (i := 564) (by decide +kernel) (by decide +kernel)
theorem cX11_344 : CV RX11 344 mX0_copyFrom 1 0 := ⟨cmX0_copyFrom _ _, _, _, _, rfl, tw564, tw565, tw566⟩
theorem tw295 : Cond.fieldLink "RiverIfs" 347 "RiverIfs$Image" "seen" "LRiverIfs$Seen;" ∈ lw_good := lw_t (i := 295) (by decide +kernel) (by decide +kernel)
theorem fX11_347 : FL RX11 347 2 2 := ⟨_, _, _, rfl, by decide, inX2, tw295, rfl⟩
theorem tw572 : Cond.code ⟨"RiverIfs$Seen", "copyFrom", "(LRiverIfs$Seen;)V"⟩ prog_7_method_5_code 2 (none) ∈ lw_good := lw_t (i := 572) (by decide +kernel) (by decide +kernel)
theorem cmX5_copyFrom (own : String) (idx : Nat) : CM own idx mX5_copyFrom 1 := ⟨⟨by decide +kernel, rfl, by decide⟩, ⟨tw572, tw9⟩, by decide +kernel, by decide +kernel, by decide +kernel⟩
theorem tw570 : Cond.instanceMethod ⟨"RiverIfs$Seen", "copyFrom", "(LRiverIfs$Seen;)V"⟩ ∈ lw_good := lw_t (i := 570) (by decide +kernel) (by decide +kernel)
theorem tw571 : Cond.selects "RiverIfs$Seen" ⟨"RiverIfs$Seen", "copyFrom", "(LRiverIfs$Seen;)V"⟩ ⟨"RiverIfs$Seen", "copyFrom", "(LRiverIfs$Seen;)V"⟩ ∈ lw_good := lw_t (i := 571) (by decide +kernel) (by decide +kernel)
theorem tw569 : Cond.methodLink "RiverIfs" 348 ⟨"RiverIfs$Seen", "copyFrom", "(LRiverIfs$Seen;)V"⟩ ∈ lw_good := lw_t (i := 569) (by decide +kernel) (by decide +kernel)
theorem cX11_348 : CV RX11 348 mX5_copyFrom 1 5 := ⟨cmX5_copyFrom _ _, _, _, _, rfl, tw569, tw570, tw571⟩
theorem tw297 : Cond.fieldLink "RiverIfs" 351 "RiverIfs$Image" "status" "[I" ∈ lw_good := lw_t (i := 297) (by decide +kernel) (by decide +kernel)
theorem fX11_351 : FL RX11 351 2 3 := ⟨_, _, _, rfl, by decide, inX2, tw297, rfl⟩
theorem tw574 : Cond.methodLink "RiverIfs" 352 ⟨"java/lang/System", "arraycopy", "(Ljava/lang/Object;ILjava/lang/Object;II)V"⟩ ∈ lw_good := lw_t (i := 574) (by decide +kernel) (by decide +kernel)
theorem cX11_352 : Cond.methodLink RX11 352 arraycopyName ∈ lw_good := tw574
theorem tw1329 : Cond.methodLink "RiverIfsModel" 3 ⟨"java/lang/Object", "<init>", "()V"⟩ ∈ lw_good := lw_t (i := 1329) (by decide +kernel) (by decide +kernel)
theorem cX12_3 : Cond.methodLink RX12 3 Lib.objectInit ∈ lw_good := tw1329
theorem tw1341 : Cond.fieldLink "RiverIfsModel" 15 "RiverIfsModel" "conditionals" "[Ljava/lang/String;" ∈ lw_good := lw_t (i := 1341) (by decide +kernel) (by decide +kernel)
theorem fX12_15 : FL RX12 15 12 0 := ⟨_, _, _, rfl, by decide, inX12, tw1341, rfl⟩
theorem tw1342 : Cond.fieldLink "RiverIfsModel" 33 "RiverIfsModel" "values" "[Ljava/lang/String;" ∈ lw_good := lw_t (i := 1342) (by decide +kernel) (by decide +kernel)
theorem fX12_33 : FL RX12 33 12 1 := ⟨_, _, _, rfl, by decide, inX12, tw1342, rfl⟩
theorem tw1344 : Cond.fieldLink "RiverIfsModel" 36 "RiverIfsModel" "told" "[I" ∈ lw_good := lw_t (i := 1344) (by decide +kernel) (by decide +kernel)
theorem fX12_36 : FL RX12 36 12 3 := ⟨_, _, _, rfl, by decide, inX12, tw1344, rfl⟩
theorem tw1345 : Cond.fieldLink "RiverIfsModel" 40 "RiverIfsModel" "worths" "[I" ∈ lw_good := lw_t (i := 1345) (by decide +kernel) (by decide +kernel)
theorem fX12_40 : FL RX12 40 12 4 := ⟨_, _, _, rfl, by decide, inX12, tw1345, rfl⟩
theorem tw1346 : Cond.fieldLink "RiverIfsModel" 43 "RiverIfsModel" "hasTold" "[I" ∈ lw_good := lw_t (i := 1346) (by decide +kernel) (by decide +kernel)
theorem fX12_43 : FL RX12 43 12 5 := ⟨_, _, _, rfl, by decide, inX12, tw1346, rfl⟩
theorem tw1347 : Cond.fieldLink "RiverIfsModel" 46 "RiverIfsModel" "missTold" "[I" ∈ lw_good := lw_t (i := 1347) (by decide +kernel) (by decide +kernel)
theorem fX12_46 : FL RX12 46 12 6 := ⟨_, _, _, rfl, by decide, inX12, tw1347, rfl⟩
theorem tw1348 : Cond.fieldLink "RiverIfsModel" 49 "RiverIfsModel" "spare" "[I" ∈ lw_good := lw_t (i := 1348) (by decide +kernel) (by decide +kernel)
theorem fX12_49 : FL RX12 49 12 7 := ⟨_, _, _, rfl, by decide, inX12, tw1348, rfl⟩
theorem tw1349 : Cond.fieldLink "RiverIfsModel" 52 "RiverIfsModel" "longTold" "[I" ∈ lw_good := lw_t (i := 1349) (by decide +kernel) (by decide +kernel)
theorem fX12_52 : FL RX12 52 12 8 := ⟨_, _, _, rfl, by decide, inX12, tw1349, rfl⟩
theorem tw1350 : Cond.fieldLink "RiverIfsModel" 55 "RiverIfsModel" "kind" "[I" ∈ lw_good := lw_t (i := 1350) (by decide +kernel) (by decide +kernel)
theorem fX12_55 : FL RX12 55 12 9 := ⟨_, _, _, rfl, by decide, inX12, tw1350, rfl⟩
theorem tw1351 : Cond.fieldLink "RiverIfsModel" 58 "RiverIfsModel" "needs" "[I" ∈ lw_good := lw_t (i := 1351) (by decide +kernel) (by decide +kernel)
theorem fX12_58 : FL RX12 58 12 10 := ⟨_, _, _, rfl, by decide, inX12, tw1351, rfl⟩
theorem tw1352 : Cond.fieldLink "RiverIfsModel" 61 "RiverIfsModel" "bars" "[I" ∈ lw_good := lw_t (i := 1352) (by decide +kernel) (by decide +kernel)
theorem fX12_61 : FL RX12 61 12 11 := ⟨_, _, _, rfl, by decide, inX12, tw1352, rfl⟩
theorem tw1353 : Cond.fieldLink "RiverIfsModel" 64 "RiverIfsModel" "gives" "[I" ∈ lw_good := lw_t (i := 1353) (by decide +kernel) (by decide +kernel)
theorem fX12_64 : FL RX12 64 12 12 := ⟨_, _, _, rfl, by decide, inX12, tw1353, rfl⟩
theorem tw1354 : Cond.fieldLink "RiverIfsModel" 67 "RiverIfsModel" "signs" "[I" ∈ lw_good := lw_t (i := 1354) (by decide +kernel) (by decide +kernel)
theorem fX12_67 : FL RX12 67 12 13 := ⟨_, _, _, rfl, by decide, inX12, tw1354, rfl⟩
theorem tw1355 : Cond.fieldLink "RiverIfsModel" 70 "RiverIfsModel" "status" "[I" ∈ lw_good := lw_t (i := 1355) (by decide +kernel) (by decide +kernel)
theorem fX12_70 : FL RX12 70 12 14 := ⟨_, _, _, rfl, by decide, inX12, tw1355, rfl⟩
theorem tw1356 : Cond.fieldLink "RiverIfsModel" 73 "RiverIfsModel" "tape" "[I" ∈ lw_good := lw_t (i := 1356) (by decide +kernel) (by decide +kernel)
theorem fX12_73 : FL RX12 73 12 15 := ⟨_, _, _, rfl, by decide, inX12, tw1356, rfl⟩
theorem tw1366 : Cond.fieldLink "RiverIfsModel" 76 "RiverIfsModel" "faultPlace" "I" ∈ lw_good := lw_t (i := 1366) (by decide +kernel) (by decide +kernel)
theorem fX12_76 : FL RX12 76 12 25 := ⟨_, _, _, rfl, by decide, inX12, tw1366, rfl⟩
theorem tw1368 : Cond.fieldLink "RiverIfsModel" 80 "RiverIfsModel" "own" "[I" ∈ lw_good := lw_t (i := 1368) (by decide +kernel) (by decide +kernel)
theorem fX12_80 : FL RX12 80 12 27 := ⟨_, _, _, rfl, by decide, inX12, tw1368, rfl⟩
theorem tw1369 : Cond.fieldLink "RiverIfsModel" 83 "RiverIfsModel" "missed" "[I" ∈ lw_good := lw_t (i := 1369) (by decide +kernel) (by decide +kernel)
theorem fX12_83 : FL RX12 83 12 28 := ⟨_, _, _, rfl, by decide, inX12, tw1369, rfl⟩
theorem tw1370 : Cond.fieldLink "RiverIfsModel" 86 "RiverIfsModel" "longing" "[I" ∈ lw_good := lw_t (i := 1370) (by decide +kernel) (by decide +kernel)
theorem fX12_86 : FL RX12 86 12 29 := ⟨_, _, _, rfl, by decide, inX12, tw1370, rfl⟩
theorem tw1371 : Cond.fieldLink "RiverIfsModel" 88 "RiverIfsModel" "flowers" "[I" ∈ lw_good := lw_t (i := 1371) (by decide +kernel) (by decide +kernel)
theorem fX12_88 : FL RX12 88 12 30 := ⟨_, _, _, rfl, by decide, inX12, tw1371, rfl⟩
theorem tw1372 : Cond.fieldLink "RiverIfsModel" 90 "RiverIfsModel" "past" "[I" ∈ lw_good := lw_t (i := 1372) (by decide +kernel) (by decide +kernel)
theorem fX12_90 : FL RX12 90 12 31 := ⟨_, _, _, rfl, by decide, inX12, tw1372, rfl⟩
theorem tw1379 : Cond.fieldLink "RiverIfsModel" 93 "RiverIfsModel" "asked" "[I" ∈ lw_good := lw_t (i := 1379) (by decide +kernel) (by decide +kernel)
theorem fX12_93 : FL RX12 93 12 38 := ⟨_, _, _, rfl, by decide, inX12, tw1379, rfl⟩
theorem tw1380 : Cond.fieldLink "RiverIfsModel" 96 "RiverIfsModel" "stack" "[I" ∈ lw_good := lw_t (i := 1380) (by decide +kernel) (by decide +kernel)
theorem fX12_96 : FL RX12 96 12 39 := ⟨_, _, _, rfl, by decide, inX12, tw1380, rfl⟩
theorem tw1382 : Cond.fieldLink "RiverIfsModel" 99 "RiverIfsModel" "rowThen" "[I" ∈ lw_good := lw_t (i := 1382) (by decide +kernel) (by decide +kernel)
theorem fX12_99 : FL RX12 99 12 41 := ⟨_, _, _, rfl, by decide, inX12, tw1382, rfl⟩
theorem tw1383 : Cond.fieldLink "RiverIfsModel" 102 "RiverIfsModel" "stepsTo" "[I" ∈ lw_good := lw_t (i := 1383) (by decide +kernel) (by decide +kernel)
theorem fX12_102 : FL RX12 102 12 42 := ⟨_, _, _, rfl, by decide, inX12, tw1383, rfl⟩
theorem tw1384 : Cond.fieldLink "RiverIfsModel" 105 "RiverIfsModel" "line" "[I" ∈ lw_good := lw_t (i := 1384) (by decide +kernel) (by decide +kernel)
theorem fX12_105 : FL RX12 105 12 43 := ⟨_, _, _, rfl, by decide, inX12, tw1384, rfl⟩
theorem tw1385 : Cond.fieldLink "RiverIfsModel" 108 "RiverIfsModel" "seenPerson" "[I" ∈ lw_good := lw_t (i := 1385) (by decide +kernel) (by decide +kernel)
theorem fX12_108 : FL RX12 108 12 44 := ⟨_, _, _, rfl, by decide, inX12, tw1385, rfl⟩
theorem tw1386 : Cond.fieldLink "RiverIfsModel" 111 "RiverIfsModel" "seenThing" "[I" ∈ lw_good := lw_t (i := 1386) (by decide +kernel) (by decide +kernel)
theorem fX12_111 : FL RX12 111 12 45 := ⟨_, _, _, rfl, by decide, inX12, tw1386, rfl⟩
theorem tw1387 : Cond.fieldLink "RiverIfsModel" 114 "RiverIfsModel" "seenHas" "[Z" ∈ lw_good := lw_t (i := 1387) (by decide +kernel) (by decide +kernel)
theorem fX12_114 : FL RX12 114 12 46 := ⟨_, _, _, rfl, by decide, inX12, tw1387, rfl⟩
theorem tw1392 : Cond.fieldLink "RiverIfsModel" 118 "RiverIfsModel" "imageRow" "[I" ∈ lw_good := lw_t (i := 1392) (by decide +kernel) (by decide +kernel)
theorem fX12_118 : FL RX12 118 12 51 := ⟨_, _, _, rfl, by decide, inX12, tw1392, rfl⟩
theorem tw1393 : Cond.fieldLink "RiverIfsModel" 121 "RiverIfsModel" "pastThen" "[I" ∈ lw_good := lw_t (i := 1393) (by decide +kernel) (by decide +kernel)
theorem fX12_121 : FL RX12 121 12 52 := ⟨_, _, _, rfl, by decide, inX12, tw1393, rfl⟩
theorem tw1394 : Cond.fieldLink "RiverIfsModel" 124 "RiverIfsModel" "seenPersonThen" "[I" ∈ lw_good := lw_t (i := 1394) (by decide +kernel) (by decide +kernel)
theorem fX12_124 : FL RX12 124 12 53 := ⟨_, _, _, rfl, by decide, inX12, tw1394, rfl⟩
theorem tw1395 : Cond.fieldLink "RiverIfsModel" 127 "RiverIfsModel" "seenThingThen" "[I" ∈ lw_good := lw_t (i := 1395) (by decide +kernel) (by decide +kernel)
theorem fX12_127 : FL RX12 127 12 54 := ⟨_, _, _, rfl, by decide, inX12, tw1395, rfl⟩
theorem tw1396 : Cond.fieldLink "RiverIfsModel" 130 "RiverIfsModel" "statusThen" "[I" ∈ lw_good := lw_t (i := 1396) (by decide +kernel) (by decide +kernel)
theorem fX12_130 : FL RX12 130 12 55 := ⟨_, _, _, rfl, by decide, inX12, tw1396, rfl⟩
theorem tw1397 : Cond.fieldLink "RiverIfsModel" 133 "RiverIfsModel" "seenHasThen" "[Z" ∈ lw_good := lw_t (i := 1397) (by decide +kernel) (by decide +kernel)
theorem fX12_133 : FL RX12 133 12 56 := ⟨_, _, _, rfl, by decide, inX12, tw1397, rfl⟩
theorem tw1376 : Cond.fieldLink "RiverIfsModel" 136 "RiverIfsModel" "bears" "I" ∈ lw_good := lw_t (i := 1376) (by decide +kernel) (by decide +kernel)
theorem fX12_136 : FL RX12 136 12 35 := ⟨_, _, _, rfl, by decide, inX12, tw1376, rfl⟩
theorem tw1343 : Cond.fieldLink "RiverIfsModel" 139 "RiverIfsModel" "code" "I" ∈ lw_good := lw_t (i := 1343) (by decide +kernel) (by decide +kernel)
theorem fX12_139 : FL RX12 139 12 2 := ⟨_, _, _, rfl, by decide, inX12, tw1343, rfl⟩
theorem tw1694 : Cond.code ⟨"RiverIfsModel", "isIn", "(JJJ)Z"⟩ prog_14_method_5_code 6 (some .boolean) ∈ lw_good := lw_t (i := 1694) (by decide +kernel) (by decide +kernel)
theorem tw13 : Cond.initialized "RiverIfsModel" ∈ lw_good := lw_t (i := 13) (by decide +kernel) (by decide +kernel)
theorem cmX12_isIn (own : String) (idx : Nat) : CM own idx mX12_isIn 3 := ⟨⟨by decide +kernel, rfl, by decide⟩, ⟨tw1694, tw13⟩, by decide +kernel, by decide +kernel, by decide +kernel⟩
theorem tw1693 : Cond.static ⟨"RiverIfsModel", "isIn", "(JJJ)Z"⟩ ∈ lw_good := lw_t (i := 1693) (by decide +kernel) (by decide +kernel)
theorem tw1692 : Cond.methodLink "RiverIfsModel" 142 ⟨"RiverIfsModel", "isIn", "(JJJ)Z"⟩ ∈ lw_good := lw_t (i := 1692) (by decide +kernel) (by decide +kernel)
theorem cX12_142 : CS RX12 142 mX12_isIn 3 := ⟨cmX12_isIn _ _, tw1692, tw1693⟩
theorem lX12_146 : Cond.constantLong "RiverIfsModel" 146 (9) ∈ lw_good := lw_t (i := 1691) (by decide +kernel) (by decide +kernel)
theorem lX12_148 : Cond.constantLong "RiverIfsModel" 148 (1023) ∈ lw_good := lw_t (i := 1836) (by decide +kernel) (by decide +kernel)
theorem tw1357 : Cond.fieldLink "RiverIfsModel" 150 "RiverIfsModel" "taped" "I" ∈ lw_good := lw_t (i := 1357) (by decide +kernel) (by decide +kernel)
theorem fX12_150 : FL RX12 150 12 16 := ⟨_, _, _, rfl, by decide, inX12, tw1357, rfl⟩
theorem tw1359 : Cond.fieldLink "RiverIfsModel" 153 "RiverIfsModel" "size" "I" ∈ lw_good := lw_t (i := 1359) (by decide +kernel) (by decide +kernel)
theorem fX12_153 : FL RX12 153 12 18 := ⟨_, _, _, rfl, by decide, inX12, tw1359, rfl⟩
theorem tw1358 : Cond.fieldLink "RiverIfsModel" 156 "RiverIfsModel" "at" "I" ∈ lw_good := lw_t (i := 1358) (by decide +kernel) (by decide +kernel)
theorem fX12_156 : FL RX12 156 12 17 := ⟨_, _, _, rfl, by decide, inX12, tw1358, rfl⟩
theorem tw1537 : Cond.code ⟨"RiverIfsModel", "byteAt", "(I)I"⟩ prog_14_method_13_code 2 (some .int) ∈ lw_good := lw_t (i := 1537) (by decide +kernel) (by decide +kernel)
theorem cmX12_byteAt (own : String) (idx : Nat) : CM own idx mX12_byteAt 1 := ⟨⟨by decide +kernel, rfl, by decide⟩, ⟨tw1537, tw13⟩, by decide +kernel, by decide +kernel, by decide +kernel⟩
theorem tw1536 : Cond.instanceMethod ⟨"RiverIfsModel", "byteAt", "(I)I"⟩ ∈ lw_good := lw_t (i := 1536) (by decide +kernel) (by decide +kernel)
theorem ts45 : Cond.selects "RiverIfsModel" ⟨"RiverIfsModel", "byteAt", "(I)I"⟩ ⟨"RiverIfsModel", "byteAt", "(I)I"⟩ ∈ lw_good := lw_s (i := 45) (by decide +kernel) (by decide +kernel)
theorem tw1534 : Cond.methodLink "RiverIfsModel" 159 ⟨"RiverIfsModel", "byteAt", "(I)I"⟩ ∈ lw_good := lw_t (i := 1534) (by decide +kernel) (by decide +kernel)
theorem cX12_159 : CV RX12 159 mX12_byteAt 1 12 := ⟨cmX12_byteAt _ _, _, _, _, rfl, tw1534, tw1536, ts45⟩
theorem tw1362 : Cond.fieldLink "RiverIfsModel" 163 "RiverIfsModel" "begins" "I" ∈ lw_good := lw_t (i := 1362) (by decide +kernel) (by decide +kernel)
theorem fX12_163 : FL RX12 163 12 21 := ⟨_, _, _, rfl, by decide, inX12, tw1362, rfl⟩
theorem tw1360 : Cond.fieldLink "RiverIfsModel" 166 "RiverIfsModel" "token" "I" ∈ lw_good := lw_t (i := 1360) (by decide +kernel) (by decide +kernel)
theorem fX12_166 : FL RX12 166 12 19 := ⟨_, _, _, rfl, by decide, inX12, tw1360, rfl⟩
theorem tw1540 : Cond.code ⟨"RiverIfsModel", "isLetter", "(I)Z"⟩ prog_14_method_14_code 1 (some .boolean) ∈ lw_good := lw_t (i := 1540) (by decide +kernel) (by decide +kernel)
theorem cmX12_isLetter (own : String) (idx : Nat) : CM own idx mX12_isLetter 1 := ⟨⟨by decide +kernel, rfl, by decide⟩, ⟨tw1540, tw13⟩, by decide +kernel, by decide +kernel, by decide +kernel⟩
theorem tw1539 : Cond.static ⟨"RiverIfsModel", "isLetter", "(I)Z"⟩ ∈ lw_good := lw_t (i := 1539) (by decide +kernel) (by decide +kernel)
theorem tw1538 : Cond.methodLink "RiverIfsModel" 169 ⟨"RiverIfsModel", "isLetter", "(I)Z"⟩ ∈ lw_good := lw_t (i := 1538) (by decide +kernel) (by decide +kernel)
theorem cX12_169 : CS RX12 169 mX12_isLetter 1 := ⟨cmX12_isLetter _ _, tw1538, tw1539⟩
theorem tw1543 : Cond.code ⟨"RiverIfsModel", "isDigit", "(I)Z"⟩ prog_14_method_15_code 1 (some .boolean) ∈ lw_good := lw_t (i := 1543) (by decide +kernel) (by decide +kernel)
theorem cmX12_isDigit (own : String) (idx : Nat) : CM own idx mX12_isDigit 1 := ⟨⟨by decide +kernel, rfl, by decide⟩, ⟨tw1543, tw13⟩, by decide +kernel, by decide +kernel, by decide +kernel⟩
theorem tw1542 : Cond.static ⟨"RiverIfsModel", "isDigit", "(I)Z"⟩ ∈ lw_good := lw_t (i := 1542) (by decide +kernel) (by decide +kernel)
theorem tw1541 : Cond.methodLink "RiverIfsModel" 173 ⟨"RiverIfsModel", "isDigit", "(I)Z"⟩ ∈ lw_good := lw_t (i := 1541) (by decide +kernel) (by decide +kernel)
theorem cX12_173 : CS RX12 173 mX12_isDigit 1 := ⟨cmX12_isDigit _ _, tw1541, tw1542⟩
theorem tw1361 : Cond.fieldLink "RiverIfsModel" 176 "RiverIfsModel" "number" "I" ∈ lw_good := lw_t (i := 1361) (by decide +kernel) (by decide +kernel)
theorem fX12_176 : FL RX12 176 12 20 := ⟨_, _, _, rfl, by decide, inX12, tw1361, rfl⟩
theorem lX12_179 : Cond.constant "RiverIfsModel" 179 (100000) ∈ lw_good := lw_t (i := 1544) (by decide +kernel) (by decide +kernel)
theorem tw1545 : Cond.methodLink "RiverIfsModel" 180 ⟨"java/lang/Math", "min", "(II)I"⟩ ∈ lw_good := lw_t (i := 1545) (by decide +kernel) (by decide +kernel)
theorem cX12_180 : Cond.methodLink RX12 180 Lib.Math.min.name ∈ lw_good := tw1545
theorem tw1548 : Cond.code ⟨"RiverIfsModel", "isMark", "(I)Z"⟩ prog_14_method_16_code 1 (some .boolean) ∈ lw_good := lw_t (i := 1548) (by decide +kernel) (by decide +kernel)
theorem cmX12_isMark (own : String) (idx : Nat) : CM own idx mX12_isMark 1 := ⟨⟨by decide +kernel, rfl, by decide⟩, ⟨tw1548, tw13⟩, by decide +kernel, by decide +kernel, by decide +kernel⟩
theorem tw1547 : Cond.static ⟨"RiverIfsModel", "isMark", "(I)Z"⟩ ∈ lw_good := lw_t (i := 1547) (by decide +kernel) (by decide +kernel)
theorem tw1546 : Cond.methodLink "RiverIfsModel" 186 ⟨"RiverIfsModel", "isMark", "(I)Z"⟩ ∈ lw_good := lw_t (i := 1546) (by decide +kernel) (by decide +kernel)
theorem cX12_186 : CS RX12 186 mX12_isMark 1 := ⟨cmX12_isMark _ _, tw1546, tw1547⟩
theorem tw1363 : Cond.fieldLink "RiverIfsModel" 189 "RiverIfsModel" "stops" "I" ∈ lw_good := lw_t (i := 1363) (by decide +kernel) (by decide +kernel)
theorem fX12_189 : FL RX12 189 12 22 := ⟨_, _, _, rfl, by decide, inX12, tw1363, rfl⟩
theorem tw1364 : Cond.fieldLink "RiverIfsModel" 192 "RiverIfsModel" "bad" "I" ∈ lw_good := lw_t (i := 1364) (by decide +kernel) (by decide +kernel)
theorem fX12_192 : FL RX12 192 12 23 := ⟨_, _, _, rfl, by decide, inX12, tw1364, rfl⟩
theorem tw1365 : Cond.fieldLink "RiverIfsModel" 195 "RiverIfsModel" "badPlace" "I" ∈ lw_good := lw_t (i := 1365) (by decide +kernel) (by decide +kernel)
theorem fX12_195 : FL RX12 195 12 24 := ⟨_, _, _, rfl, by decide, inX12, tw1365, rfl⟩
theorem tw1560 : Cond.code ⟨"RiverIfsModel", "is", "(Ljava/lang/String;)Z"⟩ prog_14_method_19_code 4 (some .boolean) ∈ lw_good := lw_t (i := 1560) (by decide +kernel) (by decide +kernel)
theorem cmX12_is (own : String) (idx : Nat) : CM own idx mX12_is 1 := ⟨⟨by decide +kernel, rfl, by decide⟩, ⟨tw1560, tw13⟩, by decide +kernel, by decide +kernel, by decide +kernel⟩
theorem tw1559 : Cond.instanceMethod ⟨"RiverIfsModel", "is", "(Ljava/lang/String;)Z"⟩ ∈ lw_good := lw_t (i := 1559) (by decide +kernel) (by decide +kernel)
theorem ts48 : Cond.selects "RiverIfsModel" ⟨"RiverIfsModel", "is", "(Ljava/lang/String;)Z"⟩ ⟨"RiverIfsModel", "is", "(Ljava/lang/String;)Z"⟩ ∈ lw_good := lw_s (i := 48) (by decide +kernel) (by decide +kernel)
theorem tw1557 : Cond.methodLink "RiverIfsModel" 206 ⟨"RiverIfsModel", "is", "(Ljava/lang/String;)Z"⟩ ∈ lw_good := lw_t (i := 1557) (by decide +kernel) (by decide +kernel)
theorem cX12_206 : CV RX12 206 mX12_is 1 12 := ⟨cmX12_is _ _, _, _, _, rfl, tw1557, tw1559, ts48⟩
theorem tw1584 : Cond.code ⟨"RiverIfsModel", "isMarked", "(I)Z"⟩ prog_14_method_21_code 2 (some .boolean) ∈ lw_good := lw_t (i := 1584) (by decide +kernel) (by decide +kernel)
theorem cmX12_isMarked (own : String) (idx : Nat) : CM own idx mX12_isMarked 1 := ⟨⟨by decide +kernel, rfl, by decide⟩, ⟨tw1584, tw13⟩, by decide +kernel, by decide +kernel, by decide +kernel⟩
theorem tw1583 : Cond.instanceMethod ⟨"RiverIfsModel", "isMarked", "(I)Z"⟩ ∈ lw_good := lw_t (i := 1583) (by decide +kernel) (by decide +kernel)
theorem ts53 : Cond.selects "RiverIfsModel" ⟨"RiverIfsModel", "isMarked", "(I)Z"⟩ ⟨"RiverIfsModel", "isMarked", "(I)Z"⟩ ∈ lw_good := lw_s (i := 53) (by decide +kernel) (by decide +kernel)
theorem tw1581 : Cond.methodLink "RiverIfsModel" 210 ⟨"RiverIfsModel", "isMarked", "(I)Z"⟩ ∈ lw_good := lw_t (i := 1581) (by decide +kernel) (by decide +kernel)
theorem cX12_210 : CV RX12 210 mX12_isMarked 1 12 := ⟨cmX12_isMarked _ _, _, _, _, rfl, tw1581, tw1583, ts53⟩
theorem tw1568 : Cond.code ⟨"RiverIfsModel", "wrong", "(I)V"⟩ prog_14_method_18_code 2 (none) ∈ lw_good := lw_t (i := 1568) (by decide +kernel) (by decide +kernel)
theorem cmX12_wrong (own : String) (idx : Nat) : CM own idx mX12_wrong 1 := ⟨⟨by decide +kernel, rfl, by decide⟩, ⟨tw1568, tw13⟩, by decide +kernel, by decide +kernel, by decide +kernel⟩
theorem tw1567 : Cond.instanceMethod ⟨"RiverIfsModel", "wrong", "(I)V"⟩ ∈ lw_good := lw_t (i := 1567) (by decide +kernel) (by decide +kernel)
theorem ts49 : Cond.selects "RiverIfsModel" ⟨"RiverIfsModel", "wrong", "(I)V"⟩ ⟨"RiverIfsModel", "wrong", "(I)V"⟩ ∈ lw_good := lw_s (i := 49) (by decide +kernel) (by decide +kernel)
theorem tw1565 : Cond.methodLink "RiverIfsModel" 213 ⟨"RiverIfsModel", "wrong", "(I)V"⟩ ∈ lw_good := lw_t (i := 1565) (by decide +kernel) (by decide +kernel)
theorem cX12_213 : CV RX12 213 mX12_wrong 1 12 := ⟨cmX12_wrong _ _, _, _, _, rfl, tw1565, tw1567, ts49⟩
theorem tw1533 : Cond.code ⟨"RiverIfsModel", "stepOn", "()V"⟩ prog_14_method_17_code 2 (none) ∈ lw_good := lw_t (i := 1533) (by decide +kernel) (by decide +kernel)
theorem cmX12_stepOn (own : String) (idx : Nat) : CM own idx mX12_stepOn 0 := ⟨⟨by decide +kernel, rfl, by decide⟩, ⟨tw1533, tw13⟩, by decide +kernel, by decide +kernel, by decide +kernel⟩
theorem tw1532 : Cond.instanceMethod ⟨"RiverIfsModel", "stepOn", "()V"⟩ ∈ lw_good := lw_t (i := 1532) (by decide +kernel) (by decide +kernel)
theorem ts44 : Cond.selects "RiverIfsModel" ⟨"RiverIfsModel", "stepOn", "()V"⟩ ⟨"RiverIfsModel", "stepOn", "()V"⟩ ∈ lw_good := lw_s (i := 44) (by decide +kernel) (by decide +kernel)
theorem tw1530 : Cond.methodLink "RiverIfsModel" 217 ⟨"RiverIfsModel", "stepOn", "()V"⟩ ∈ lw_good := lw_t (i := 1530) (by decide +kernel) (by decide +kernel)
theorem cX12_217 : CV RX12 217 mX12_stepOn 0 12 := ⟨cmX12_stepOn _ _, _, _, _, rfl, tw1530, tw1532, ts44⟩
theorem tw1576 : Cond.code ⟨"RiverIfsModel", "numberNow", "(II)I"⟩ prog_14_method_23_code 3 (some .int) ∈ lw_good := lw_t (i := 1576) (by decide +kernel) (by decide +kernel)
theorem cmX12_numberNow (own : String) (idx : Nat) : CM own idx mX12_numberNow 2 := ⟨⟨by decide +kernel, rfl, by decide⟩, ⟨tw1576, tw13⟩, by decide +kernel, by decide +kernel, by decide +kernel⟩
theorem tw1575 : Cond.instanceMethod ⟨"RiverIfsModel", "numberNow", "(II)I"⟩ ∈ lw_good := lw_t (i := 1575) (by decide +kernel) (by decide +kernel)
theorem ts51 : Cond.selects "RiverIfsModel" ⟨"RiverIfsModel", "numberNow", "(II)I"⟩ ⟨"RiverIfsModel", "numberNow", "(II)I"⟩ ∈ lw_good := lw_s (i := 51) (by decide +kernel) (by decide +kernel)
theorem tw1573 : Cond.methodLink "RiverIfsModel" 220 ⟨"RiverIfsModel", "numberNow", "(II)I"⟩ ∈ lw_good := lw_t (i := 1573) (by decide +kernel) (by decide +kernel)
theorem cX12_220 : CV RX12 220 mX12_numberNow 2 12 := ⟨cmX12_numberNow _ _, _, _, _, rfl, tw1573, tw1575, ts51⟩
theorem tw1572 : Cond.code ⟨"RiverIfsModel", "readNumber", "(II)I"⟩ prog_14_method_24_code 4 (some .int) ∈ lw_good := lw_t (i := 1572) (by decide +kernel) (by decide +kernel)
theorem cmX12_readNumber (own : String) (idx : Nat) : CM own idx mX12_readNumber 2 := ⟨⟨by decide +kernel, rfl, by decide⟩, ⟨tw1572, tw13⟩, by decide +kernel, by decide +kernel, by decide +kernel⟩
theorem tw1571 : Cond.instanceMethod ⟨"RiverIfsModel", "readNumber", "(II)I"⟩ ∈ lw_good := lw_t (i := 1571) (by decide +kernel) (by decide +kernel)
theorem ts50 : Cond.selects "RiverIfsModel" ⟨"RiverIfsModel", "readNumber", "(II)I"⟩ ⟨"RiverIfsModel", "readNumber", "(II)I"⟩ ∈ lw_good := lw_s (i := 50) (by decide +kernel) (by decide +kernel)
theorem tw1569 : Cond.methodLink "RiverIfsModel" 223 ⟨"RiverIfsModel", "readNumber", "(II)I"⟩ ∈ lw_good := lw_t (i := 1569) (by decide +kernel) (by decide +kernel)
theorem cX12_223 : CV RX12 223 mX12_readNumber 2 12 := ⟨cmX12_readNumber _ _, _, _, _, rfl, tw1569, tw1571, ts50⟩
theorem tw1609 : Cond.code ⟨"RiverIfsModel", "lay", "(I)V"⟩ prog_14_method_25_code 2 (none) ∈ lw_good := lw_t (i := 1609) (by decide +kernel) (by decide +kernel)
theorem cmX12_lay (own : String) (idx : Nat) : CM own idx mX12_lay 1 := ⟨⟨by decide +kernel, rfl, by decide⟩, ⟨tw1609, tw13⟩, by decide +kernel, by decide +kernel, by decide +kernel⟩
theorem tw1608 : Cond.instanceMethod ⟨"RiverIfsModel", "lay", "(I)V"⟩ ∈ lw_good := lw_t (i := 1608) (by decide +kernel) (by decide +kernel)
theorem ts59 : Cond.selects "RiverIfsModel" ⟨"RiverIfsModel", "lay", "(I)V"⟩ ⟨"RiverIfsModel", "lay", "(I)V"⟩ ∈ lw_good := lw_s (i := 59) (by decide +kernel) (by decide +kernel)
theorem tw1606 : Cond.methodLink "RiverIfsModel" 226 ⟨"RiverIfsModel", "lay", "(I)V"⟩ ∈ lw_good := lw_t (i := 1606) (by decide +kernel) (by decide +kernel)
theorem cX12_226 : CV RX12 226 mX12_lay 1 12 := ⟨cmX12_lay _ _, _, _, _, rfl, tw1606, tw1608, ts59⟩
theorem tw1556 : Cond.code ⟨"RiverIfsModel", "which", "([Ljava/lang/String;)I"⟩ prog_14_method_20_code 3 (some .int) ∈ lw_good := lw_t (i := 1556) (by decide +kernel) (by decide +kernel)
theorem cmX12_which (own : String) (idx : Nat) : CM own idx mX12_which 1 := ⟨⟨by decide +kernel, rfl, by decide⟩, ⟨tw1556, tw13⟩, by decide +kernel, by decide +kernel, by decide +kernel⟩
theorem tw1555 : Cond.instanceMethod ⟨"RiverIfsModel", "which", "([Ljava/lang/String;)I"⟩ ∈ lw_good := lw_t (i := 1555) (by decide +kernel) (by decide +kernel)
theorem ts47 : Cond.selects "RiverIfsModel" ⟨"RiverIfsModel", "which", "([Ljava/lang/String;)I"⟩ ⟨"RiverIfsModel", "which", "([Ljava/lang/String;)I"⟩ ∈ lw_good := lw_s (i := 47) (by decide +kernel) (by decide +kernel)
theorem tw1553 : Cond.methodLink "RiverIfsModel" 229 ⟨"RiverIfsModel", "which", "([Ljava/lang/String;)I"⟩ ∈ lw_good := lw_t (i := 1553) (by decide +kernel) (by decide +kernel)
theorem cX12_229 : CV RX12 229 mX12_which 1 12 := ⟨cmX12_which _ _, _, _, _, rfl, tw1553, tw1555, ts47⟩
theorem tw1613 : Cond.code ⟨"RiverIfsModel", "mark", "(I)V"⟩ prog_14_method_22_code 2 (none) ∈ lw_good := lw_t (i := 1613) (by decide +kernel) (by decide +kernel)
theorem cmX12_mark (own : String) (idx : Nat) : CM own idx mX12_mark 1 := ⟨⟨by decide +kernel, rfl, by decide⟩, ⟨tw1613, tw13⟩, by decide +kernel, by decide +kernel, by decide +kernel⟩
theorem tw1612 : Cond.instanceMethod ⟨"RiverIfsModel", "mark", "(I)V"⟩ ∈ lw_good := lw_t (i := 1612) (by decide +kernel) (by decide +kernel)
theorem ts60 : Cond.selects "RiverIfsModel" ⟨"RiverIfsModel", "mark", "(I)V"⟩ ⟨"RiverIfsModel", "mark", "(I)V"⟩ ∈ lw_good := lw_s (i := 60) (by decide +kernel) (by decide +kernel)
theorem tw1610 : Cond.methodLink "RiverIfsModel" 233 ⟨"RiverIfsModel", "mark", "(I)V"⟩ ∈ lw_good := lw_t (i := 1610) (by decide +kernel) (by decide +kernel)
theorem cX12_233 : CV RX12 233 mX12_mark 1 12 := ⟨cmX12_mark _ _, _, _, _, rfl, tw1610, tw1612, ts60⟩
theorem tw1580 : Cond.code ⟨"RiverIfsModel", "readExpression", "(I)V"⟩ prog_14_method_31_code 3 (none) ∈ lw_good := lw_t (i := 1580) (by decide +kernel) (by decide +kernel)
theorem cmX12_readExpression (own : String) (idx : Nat) : CM own idx mX12_readExpression 1 := ⟨⟨by decide +kernel, rfl, by decide⟩, ⟨tw1580, tw13⟩, by decide +kernel, by decide +kernel, by decide +kernel⟩
theorem tw1579 : Cond.instanceMethod ⟨"RiverIfsModel", "readExpression", "(I)V"⟩ ∈ lw_good := lw_t (i := 1579) (by decide +kernel) (by decide +kernel)
theorem ts52 : Cond.selects "RiverIfsModel" ⟨"RiverIfsModel", "readExpression", "(I)V"⟩ ⟨"RiverIfsModel", "readExpression", "(I)V"⟩ ∈ lw_good := lw_s (i := 52) (by decide +kernel) (by decide +kernel)
theorem tw1577 : Cond.methodLink "RiverIfsModel" 236 ⟨"RiverIfsModel", "readExpression", "(I)V"⟩ ∈ lw_good := lw_t (i := 1577) (by decide +kernel) (by decide +kernel)
theorem cX12_236 : CV RX12 236 mX12_readExpression 1 12 := ⟨cmX12_readExpression _ _, _, _, _, rfl, tw1577, tw1579, ts52⟩
theorem tw1605 : Cond.code ⟨"RiverIfsModel", "readPart", "(I)V"⟩ prog_14_method_26_code 3 (none) ∈ lw_good := lw_t (i := 1605) (by decide +kernel) (by decide +kernel)
theorem cmX12_readPart (own : String) (idx : Nat) : CM own idx mX12_readPart 1 := ⟨⟨by decide +kernel, rfl, by decide⟩, ⟨tw1605, tw13⟩, by decide +kernel, by decide +kernel, by decide +kernel⟩
theorem tw1604 : Cond.instanceMethod ⟨"RiverIfsModel", "readPart", "(I)V"⟩ ∈ lw_good := lw_t (i := 1604) (by decide +kernel) (by decide +kernel)
theorem ts58 : Cond.selects "RiverIfsModel" ⟨"RiverIfsModel", "readPart", "(I)V"⟩ ⟨"RiverIfsModel", "readPart", "(I)V"⟩ ∈ lw_good := lw_s (i := 58) (by decide +kernel) (by decide +kernel)
theorem tw1602 : Cond.methodLink "RiverIfsModel" 239 ⟨"RiverIfsModel", "readPart", "(I)V"⟩ ∈ lw_good := lw_t (i := 1602) (by decide +kernel) (by decide +kernel)
theorem cX12_239 : CV RX12 239 mX12_readPart 1 12 := ⟨cmX12_readPart _ _, _, _, _, rfl, tw1602, tw1604, ts58⟩
theorem tw1601 : Cond.code ⟨"RiverIfsModel", "readProduct", "(I)V"⟩ prog_14_method_27_code 3 (none) ∈ lw_good := lw_t (i := 1601) (by decide +kernel) (by decide +kernel)
theorem cmX12_readProduct (own : String) (idx : Nat) : CM own idx mX12_readProduct 1 := ⟨⟨by decide +kernel, rfl, by decide⟩, ⟨tw1601, tw13⟩, by decide +kernel, by decide +kernel, by decide +kernel⟩
theorem tw1600 : Cond.instanceMethod ⟨"RiverIfsModel", "readProduct", "(I)V"⟩ ∈ lw_good := lw_t (i := 1600) (by decide +kernel) (by decide +kernel)
theorem ts57 : Cond.selects "RiverIfsModel" ⟨"RiverIfsModel", "readProduct", "(I)V"⟩ ⟨"RiverIfsModel", "readProduct", "(I)V"⟩ ∈ lw_good := lw_s (i := 57) (by decide +kernel) (by decide +kernel)
theorem tw1598 : Cond.methodLink "RiverIfsModel" 242 ⟨"RiverIfsModel", "readProduct", "(I)V"⟩ ∈ lw_good := lw_t (i := 1598) (by decide +kernel) (by decide +kernel)
theorem cX12_242 : CV RX12 242 mX12_readProduct 1 12 := ⟨cmX12_readProduct _ _, _, _, _, rfl, tw1598, tw1600, ts57⟩
theorem tw1597 : Cond.code ⟨"RiverIfsModel", "readSum", "(I)V"⟩ prog_14_method_28_code 3 (none) ∈ lw_good := lw_t (i := 1597) (by decide +kernel) (by decide +kernel)
theorem cmX12_readSum (own : String) (idx : Nat) : CM own idx mX12_readSum 1 := ⟨⟨by decide +kernel, rfl, by decide⟩, ⟨tw1597, tw13⟩, by decide +kernel, by decide +kernel, by decide +kernel⟩
theorem tw1596 : Cond.instanceMethod ⟨"RiverIfsModel", "readSum", "(I)V"⟩ ∈ lw_good := lw_t (i := 1596) (by decide +kernel) (by decide +kernel)
theorem ts56 : Cond.selects "RiverIfsModel" ⟨"RiverIfsModel", "readSum", "(I)V"⟩ ⟨"RiverIfsModel", "readSum", "(I)V"⟩ ∈ lw_good := lw_s (i := 56) (by decide +kernel) (by decide +kernel)
theorem tw1594 : Cond.methodLink "RiverIfsModel" 247 ⟨"RiverIfsModel", "readSum", "(I)V"⟩ ∈ lw_good := lw_t (i := 1594) (by decide +kernel) (by decide +kernel)
theorem cX12_247 : CV RX12 247 mX12_readSum 1 12 := ⟨cmX12_readSum _ _, _, _, _, rfl, tw1594, tw1596, ts56⟩
theorem tw1592 : Cond.code ⟨"RiverIfsModel", "readNot", "(I)V"⟩ prog_14_method_29_code 4 (none) ∈ lw_good := lw_t (i := 1592) (by decide +kernel) (by decide +kernel)
theorem cmX12_readNot (own : String) (idx : Nat) : CM own idx mX12_readNot 1 := ⟨⟨by decide +kernel, rfl, by decide⟩, ⟨tw1592, tw13⟩, by decide +kernel, by decide +kernel, by decide +kernel⟩
theorem tw1591 : Cond.instanceMethod ⟨"RiverIfsModel", "readNot", "(I)V"⟩ ∈ lw_good := lw_t (i := 1591) (by decide +kernel) (by decide +kernel)
theorem ts55 : Cond.selects "RiverIfsModel" ⟨"RiverIfsModel", "readNot", "(I)V"⟩ ⟨"RiverIfsModel", "readNot", "(I)V"⟩ ∈ lw_good := lw_s (i := 55) (by decide +kernel) (by decide +kernel)
theorem tw1589 : Cond.methodLink "RiverIfsModel" 250 ⟨"RiverIfsModel", "readNot", "(I)V"⟩ ∈ lw_good := lw_t (i := 1589) (by decide +kernel) (by decide +kernel)
theorem cX12_250 : CV RX12 250 mX12_readNot 1 12 := ⟨cmX12_readNot _ _, _, _, _, rfl, tw1589, tw1591, ts55⟩
theorem tw1588 : Cond.code ⟨"RiverIfsModel", "readAnd", "(I)V"⟩ prog_14_method_30_code 2 (none) ∈ lw_good := lw_t (i := 1588) (by decide +kernel) (by decide +kernel)
theorem cmX12_readAnd (own : String) (idx : Nat) : CM own idx mX12_readAnd 1 := ⟨⟨by decide +kernel, rfl, by decide⟩, ⟨tw1588, tw13⟩, by decide +kernel, by decide +kernel, by decide +kernel⟩
theorem tw1587 : Cond.instanceMethod ⟨"RiverIfsModel", "readAnd", "(I)V"⟩ ∈ lw_good := lw_t (i := 1587) (by decide +kernel) (by decide +kernel)
theorem ts54 : Cond.selects "RiverIfsModel" ⟨"RiverIfsModel", "readAnd", "(I)V"⟩ ⟨"RiverIfsModel", "readAnd", "(I)V"⟩ ∈ lw_good := lw_s (i := 54) (by decide +kernel) (by decide +kernel)
theorem tw1585 : Cond.methodLink "RiverIfsModel" 255 ⟨"RiverIfsModel", "readAnd", "(I)V"⟩ ∈ lw_good := lw_t (i := 1585) (by decide +kernel) (by decide +kernel)
theorem cX12_255 : CV RX12 255 mX12_readAnd 1 12 := ⟨cmX12_readAnd _ _, _, _, _, rfl, tw1585, tw1587, ts54⟩
theorem tw1367 : Cond.fieldLink "RiverIfsModel" 260 "RiverIfsModel" "worthy" "I" ∈ lw_good := lw_t (i := 1367) (by decide +kernel) (by decide +kernel)
theorem fX12_260 : FL RX12 260 12 26 := ⟨_, _, _, rfl, by decide, inX12, tw1367, rfl⟩
theorem tw1631 : Cond.code ⟨"RiverIfsModel", "isOf", "(II)Z"⟩ prog_14_method_6_code 2 (some .boolean) ∈ lw_good := lw_t (i := 1631) (by decide +kernel) (by decide +kernel)
theorem cmX12_isOf (own : String) (idx : Nat) : CM own idx mX12_isOf 2 := ⟨⟨by decide +kernel, rfl, by decide⟩, ⟨tw1631, tw13⟩, by decide +kernel, by decide +kernel, by decide +kernel⟩
theorem tw1630 : Cond.static ⟨"RiverIfsModel", "isOf", "(II)Z"⟩ ∈ lw_good := lw_t (i := 1630) (by decide +kernel) (by decide +kernel)
theorem tw1629 : Cond.methodLink "RiverIfsModel" 263 ⟨"RiverIfsModel", "isOf", "(II)Z"⟩ ∈ lw_good := lw_t (i := 1629) (by decide +kernel) (by decide +kernel)
theorem cX12_263 : CS RX12 263 mX12_isOf 2 := ⟨cmX12_isOf _ _, tw1629, tw1630⟩
theorem tw1623 : Cond.code ⟨"RiverIfsModel", "another", "(II)Z"⟩ prog_14_method_32_code 3 (some .boolean) ∈ lw_good := lw_t (i := 1623) (by decide +kernel) (by decide +kernel)
theorem cmX12_another (own : String) (idx : Nat) : CM own idx mX12_another 2 := ⟨⟨by decide +kernel, rfl, by decide⟩, ⟨tw1623, tw13⟩, by decide +kernel, by decide +kernel, by decide +kernel⟩
theorem tw1622 : Cond.instanceMethod ⟨"RiverIfsModel", "another", "(II)Z"⟩ ∈ lw_good := lw_t (i := 1622) (by decide +kernel) (by decide +kernel)
theorem ts62 : Cond.selects "RiverIfsModel" ⟨"RiverIfsModel", "another", "(II)Z"⟩ ⟨"RiverIfsModel", "another", "(II)Z"⟩ ∈ lw_good := lw_s (i := 62) (by decide +kernel) (by decide +kernel)
theorem tw1620 : Cond.methodLink "RiverIfsModel" 267 ⟨"RiverIfsModel", "another", "(II)Z"⟩ ∈ lw_good := lw_t (i := 1620) (by decide +kernel) (by decide +kernel)
theorem cX12_267 : CV RX12 267 mX12_another 2 12 := ⟨cmX12_another _ _, _, _, _, rfl, tw1620, tw1622, ts62⟩
theorem tw1619 : Cond.code ⟨"RiverIfsModel", "sayIf", "(I)V"⟩ prog_14_method_35_code 3 (none) ∈ lw_good := lw_t (i := 1619) (by decide +kernel) (by decide +kernel)
theorem cmX12_sayIf (own : String) (idx : Nat) : CM own idx mX12_sayIf 1 := ⟨⟨by decide +kernel, rfl, by decide⟩, ⟨tw1619, tw13⟩, by decide +kernel, by decide +kernel, by decide +kernel⟩
theorem tw1618 : Cond.instanceMethod ⟨"RiverIfsModel", "sayIf", "(I)V"⟩ ∈ lw_good := lw_t (i := 1618) (by decide +kernel) (by decide +kernel)
theorem ts61 : Cond.selects "RiverIfsModel" ⟨"RiverIfsModel", "sayIf", "(I)V"⟩ ⟨"RiverIfsModel", "sayIf", "(I)V"⟩ ∈ lw_good := lw_s (i := 61) (by decide +kernel) (by decide +kernel)
theorem tw1616 : Cond.methodLink "RiverIfsModel" 274 ⟨"RiverIfsModel", "sayIf", "(I)V"⟩ ∈ lw_good := lw_t (i := 1616) (by decide +kernel) (by decide +kernel)
theorem cX12_274 : CV RX12 274 mX12_sayIf 1 12 := ⟨cmX12_sayIf _ _, _, _, _, rfl, tw1616, tw1618, ts61⟩
theorem tw1628 : Cond.code ⟨"RiverIfsModel", "sayWorth", "()V"⟩ prog_14_method_33_code 4 (none) ∈ lw_good := lw_t (i := 1628) (by decide +kernel) (by decide +kernel)
theorem cmX12_sayWorth (own : String) (idx : Nat) : CM own idx mX12_sayWorth 0 := ⟨⟨by decide +kernel, rfl, by decide⟩, ⟨tw1628, tw13⟩, by decide +kernel, by decide +kernel, by decide +kernel⟩
theorem tw1627 : Cond.instanceMethod ⟨"RiverIfsModel", "sayWorth", "()V"⟩ ∈ lw_good := lw_t (i := 1627) (by decide +kernel) (by decide +kernel)
theorem ts63 : Cond.selects "RiverIfsModel" ⟨"RiverIfsModel", "sayWorth", "()V"⟩ ⟨"RiverIfsModel", "sayWorth", "()V"⟩ ∈ lw_good := lw_s (i := 63) (by decide +kernel) (by decide +kernel)
theorem tw1625 : Cond.methodLink "RiverIfsModel" 279 ⟨"RiverIfsModel", "sayWorth", "()V"⟩ ∈ lw_good := lw_t (i := 1625) (by decide +kernel) (by decide +kernel)
theorem cX12_279 : CV RX12 279 mX12_sayWorth 0 12 := ⟨cmX12_sayWorth _ _, _, _, _, rfl, tw1625, tw1627, ts63⟩
theorem tw1636 : Cond.code ⟨"RiverIfsModel", "sayPerson", "()V"⟩ prog_14_method_34_code 2 (none) ∈ lw_good := lw_t (i := 1636) (by decide +kernel) (by decide +kernel)
theorem cmX12_sayPerson (own : String) (idx : Nat) : CM own idx mX12_sayPerson 0 := ⟨⟨by decide +kernel, rfl, by decide⟩, ⟨tw1636, tw13⟩, by decide +kernel, by decide +kernel, by decide +kernel⟩
theorem tw1635 : Cond.instanceMethod ⟨"RiverIfsModel", "sayPerson", "()V"⟩ ∈ lw_good := lw_t (i := 1635) (by decide +kernel) (by decide +kernel)
theorem ts64 : Cond.selects "RiverIfsModel" ⟨"RiverIfsModel", "sayPerson", "()V"⟩ ⟨"RiverIfsModel", "sayPerson", "()V"⟩ ∈ lw_good := lw_s (i := 64) (by decide +kernel) (by decide +kernel)
theorem tw1633 : Cond.methodLink "RiverIfsModel" 284 ⟨"RiverIfsModel", "sayPerson", "()V"⟩ ∈ lw_good := lw_t (i := 1633) (by decide +kernel) (by decide +kernel)
theorem cX12_284 : CV RX12 284 mX12_sayPerson 0 12 := ⟨cmX12_sayPerson _ _, _, _, _, rfl, tw1633, tw1635, ts64⟩
theorem tw1529 : Cond.code ⟨"RiverIfsModel", "fail", "(I)I"⟩ prog_14_method_3_code 2 (some .int) ∈ lw_good := lw_t (i := 1529) (by decide +kernel) (by decide +kernel)
theorem cmX12_fail (own : String) (idx : Nat) : CM own idx mX12_fail 1 := ⟨⟨by decide +kernel, rfl, by decide⟩, ⟨tw1529, tw13⟩, by decide +kernel, by decide +kernel, by decide +kernel⟩
theorem tw1528 : Cond.instanceMethod ⟨"RiverIfsModel", "fail", "(I)I"⟩ ∈ lw_good := lw_t (i := 1528) (by decide +kernel) (by decide +kernel)
theorem ts43 : Cond.selects "RiverIfsModel" ⟨"RiverIfsModel", "fail", "(I)I"⟩ ⟨"RiverIfsModel", "fail", "(I)I"⟩ ∈ lw_good := lw_s (i := 43) (by decide +kernel) (by decide +kernel)
theorem tw1526 : Cond.methodLink "RiverIfsModel" 287 ⟨"RiverIfsModel", "fail", "(I)I"⟩ ∈ lw_good := lw_t (i := 1526) (by decide +kernel) (by decide +kernel)
theorem cX12_287 : CV RX12 287 mX12_fail 1 12 := ⟨cmX12_fail _ _, _, _, _, rfl, tw1526, tw1528, ts43⟩
theorem tw1552 : Cond.code ⟨"RiverIfsModel", "readLine", "(I)I"⟩ prog_14_method_36_code 4 (some .int) ∈ lw_good := lw_t (i := 1552) (by decide +kernel) (by decide +kernel)
theorem cmX12_readLine (own : String) (idx : Nat) : CM own idx mX12_readLine 1 := ⟨⟨by decide +kernel, rfl, by decide⟩, ⟨tw1552, tw13⟩, by decide +kernel, by decide +kernel, by decide +kernel⟩
theorem tw1551 : Cond.instanceMethod ⟨"RiverIfsModel", "readLine", "(I)I"⟩ ∈ lw_good := lw_t (i := 1551) (by decide +kernel) (by decide +kernel)
theorem ts46 : Cond.selects "RiverIfsModel" ⟨"RiverIfsModel", "readLine", "(I)I"⟩ ⟨"RiverIfsModel", "readLine", "(I)I"⟩ ∈ lw_good := lw_s (i := 46) (by decide +kernel) (by decide +kernel)
theorem tw1549 : Cond.methodLink "RiverIfsModel" 290 ⟨"RiverIfsModel", "readLine", "(I)I"⟩ ∈ lw_good := lw_t (i := 1549) (by decide +kernel) (by decide +kernel)
theorem cX12_290 : CV RX12 290 mX12_readLine 1 12 := ⟨cmX12_readLine _ _, _, _, _, rfl, tw1549, tw1551, ts46⟩
theorem tw1640 : Cond.code ⟨"RiverIfsModel", "takeOver", "()V"⟩ prog_14_method_39_code 3 (none) ∈ lw_good := lw_t (i := 1640) (by decide +kernel) (by decide +kernel)
theorem cmX12_takeOver (own : String) (idx : Nat) : CM own idx mX12_takeOver 0 := ⟨⟨by decide +kernel, rfl, by decide⟩, ⟨tw1640, tw13⟩, by decide +kernel, by decide +kernel, by decide +kernel⟩
theorem tw1639 : Cond.instanceMethod ⟨"RiverIfsModel", "takeOver", "()V"⟩ ∈ lw_good := lw_t (i := 1639) (by decide +kernel) (by decide +kernel)
theorem ts65 : Cond.selects "RiverIfsModel" ⟨"RiverIfsModel", "takeOver", "()V"⟩ ⟨"RiverIfsModel", "takeOver", "()V"⟩ ∈ lw_good := lw_s (i := 65) (by decide +kernel) (by decide +kernel)
theorem tw1637 : Cond.methodLink "RiverIfsModel" 293 ⟨"RiverIfsModel", "takeOver", "()V"⟩ ∈ lw_good := lw_t (i := 1637) (by decide +kernel) (by decide +kernel)
theorem cX12_293 : CV RX12 293 mX12_takeOver 0 12 := ⟨cmX12_takeOver _ _, _, _, _, rfl, tw1637, tw1639, ts65⟩
theorem tw1643 : Cond.code ⟨"RiverIfsModel", "takeHalf", "([I)V"⟩ prog_14_method_38_code 2 (none) ∈ lw_good := lw_t (i := 1643) (by decide +kernel) (by decide +kernel)
theorem cmX12_takeHalf (own : String) (idx : Nat) : CM own idx mX12_takeHalf 1 := ⟨⟨by decide +kernel, rfl, by decide⟩, ⟨tw1643, tw13⟩, by decide +kernel, by decide +kernel, by decide +kernel⟩
theorem tw1642 : Cond.static ⟨"RiverIfsModel", "takeHalf", "([I)V"⟩ ∈ lw_good := lw_t (i := 1642) (by decide +kernel) (by decide +kernel)
theorem tw1641 : Cond.methodLink "RiverIfsModel" 296 ⟨"RiverIfsModel", "takeHalf", "([I)V"⟩ ∈ lw_good := lw_t (i := 1641) (by decide +kernel) (by decide +kernel)
theorem cX12_296 : CS RX12 296 mX12_takeHalf 1 := ⟨cmX12_takeHalf _ _, tw1641, tw1642⟩
theorem tw1373 : Cond.fieldLink "RiverIfsModel" 300 "RiverIfsModel" "sunday" "I" ∈ lw_good := lw_t (i := 1373) (by decide +kernel) (by decide +kernel)
theorem fX12_300 : FL RX12 300 12 32 := ⟨_, _, _, rfl, by decide, inX12, tw1373, rfl⟩
theorem tw1374 : Cond.fieldLink "RiverIfsModel" 302 "RiverIfsModel" "last" "I" ∈ lw_good := lw_t (i := 1374) (by decide +kernel) (by decide +kernel)
theorem fX12_302 : FL RX12 302 12 33 := ⟨_, _, _, rfl, by decide, inX12, tw1374, rfl⟩
theorem tw1375 : Cond.fieldLink "RiverIfsModel" 304 "RiverIfsModel" "denied" "I" ∈ lw_good := lw_t (i := 1375) (by decide +kernel) (by decide +kernel)
theorem fX12_304 : FL RX12 304 12 34 := ⟨_, _, _, rfl, by decide, inX12, tw1375, rfl⟩
theorem tw1377 : Cond.fieldLink "RiverIfsModel" 307 "RiverIfsModel" "acts" "I" ∈ lw_good := lw_t (i := 1377) (by decide +kernel) (by decide +kernel)
theorem fX12_307 : FL RX12 307 12 36 := ⟨_, _, _, rfl, by decide, inX12, tw1377, rfl⟩
theorem tw1378 : Cond.fieldLink "RiverIfsModel" 310 "RiverIfsModel" "seen" "I" ∈ lw_good := lw_t (i := 1378) (by decide +kernel) (by decide +kernel)
theorem fX12_310 : FL RX12 310 12 37 := ⟨_, _, _, rfl, by decide, inX12, tw1378, rfl⟩
theorem tw1389 : Cond.fieldLink "RiverIfsModel" 313 "RiverIfsModel" "hasImage" "Z" ∈ lw_good := lw_t (i := 1389) (by decide +kernel) (by decide +kernel)
theorem fX12_313 : FL RX12 313 12 48 := ⟨_, _, _, rfl, by decide, inX12, tw1389, rfl⟩
theorem tw1667 : Cond.code ⟨"RiverIfsModel", "brings", "(II)Z"⟩ prog_14_method_43_code 4 (some .boolean) ∈ lw_good := lw_t (i := 1667) (by decide +kernel) (by decide +kernel)
theorem cmX12_brings (own : String) (idx : Nat) : CM own idx mX12_brings 2 := ⟨⟨by decide +kernel, rfl, by decide⟩, ⟨tw1667, tw13⟩, by decide +kernel, by decide +kernel, by decide +kernel⟩
theorem tw1666 : Cond.instanceMethod ⟨"RiverIfsModel", "brings", "(II)Z"⟩ ∈ lw_good := lw_t (i := 1666) (by decide +kernel) (by decide +kernel)
theorem ts69 : Cond.selects "RiverIfsModel" ⟨"RiverIfsModel", "brings", "(II)Z"⟩ ⟨"RiverIfsModel", "brings", "(II)Z"⟩ ∈ lw_good := lw_s (i := 69) (by decide +kernel) (by decide +kernel)
theorem tw1664 : Cond.methodLink "RiverIfsModel" 317 ⟨"RiverIfsModel", "brings", "(II)Z"⟩ ∈ lw_good := lw_t (i := 1664) (by decide +kernel) (by decide +kernel)
theorem cX12_317 : CV RX12 317 mX12_brings 2 12 := ⟨cmX12_brings _ _, _, _, _, rfl, tw1664, tw1666, ts69⟩
theorem tw1663 : Cond.code ⟨"RiverIfsModel", "firstOf", "(I)I"⟩ prog_14_method_44_code 3 (some .int) ∈ lw_good := lw_t (i := 1663) (by decide +kernel) (by decide +kernel)
theorem cmX12_firstOf (own : String) (idx : Nat) : CM own idx mX12_firstOf 1 := ⟨⟨by decide +kernel, rfl, by decide⟩, ⟨tw1663, tw13⟩, by decide +kernel, by decide +kernel, by decide +kernel⟩
theorem tw1662 : Cond.instanceMethod ⟨"RiverIfsModel", "firstOf", "(I)I"⟩ ∈ lw_good := lw_t (i := 1662) (by decide +kernel) (by decide +kernel)
theorem ts68 : Cond.selects "RiverIfsModel" ⟨"RiverIfsModel", "firstOf", "(I)I"⟩ ⟨"RiverIfsModel", "firstOf", "(I)I"⟩ ∈ lw_good := lw_s (i := 68) (by decide +kernel) (by decide +kernel)
theorem tw1660 : Cond.methodLink "RiverIfsModel" 320 ⟨"RiverIfsModel", "firstOf", "(I)I"⟩ ∈ lw_good := lw_t (i := 1660) (by decide +kernel) (by decide +kernel)
theorem cX12_320 : CV RX12 320 mX12_firstOf 1 12 := ⟨cmX12_firstOf _ _, _, _, _, rfl, tw1660, tw1662, ts68⟩
theorem tw1659 : Cond.code ⟨"RiverIfsModel", "come", "(I)I"⟩ prog_14_method_45_code 4 (some .int) ∈ lw_good := lw_t (i := 1659) (by decide +kernel) (by decide +kernel)
theorem cmX12_come (own : String) (idx : Nat) : CM own idx mX12_come 1 := ⟨⟨by decide +kernel, rfl, by decide⟩, ⟨tw1659, tw13⟩, by decide +kernel, by decide +kernel, by decide +kernel⟩
theorem tw1658 : Cond.instanceMethod ⟨"RiverIfsModel", "come", "(I)I"⟩ ∈ lw_good := lw_t (i := 1658) (by decide +kernel) (by decide +kernel)
theorem ts67 : Cond.selects "RiverIfsModel" ⟨"RiverIfsModel", "come", "(I)I"⟩ ⟨"RiverIfsModel", "come", "(I)I"⟩ ∈ lw_good := lw_s (i := 67) (by decide +kernel) (by decide +kernel)
theorem tw1656 : Cond.methodLink "RiverIfsModel" 323 ⟨"RiverIfsModel", "come", "(I)I"⟩ ∈ lw_good := lw_t (i := 1656) (by decide +kernel) (by decide +kernel)
theorem cX12_323 : CV RX12 323 mX12_come 1 12 := ⟨cmX12_come _ _, _, _, _, rfl, tw1656, tw1658, ts67⟩
theorem tw1733 : Cond.code ⟨"RiverIfsModel", "reckon", "(III)I"⟩ prog_14_method_49_code 3 (some .int) ∈ lw_good := lw_t (i := 1733) (by decide +kernel) (by decide +kernel)
theorem cmX12_reckon (own : String) (idx : Nat) : CM own idx mX12_reckon 3 := ⟨⟨by decide +kernel, rfl, by decide⟩, ⟨tw1733, tw13⟩, by decide +kernel, by decide +kernel, by decide +kernel⟩
theorem tw1732 : Cond.static ⟨"RiverIfsModel", "reckon", "(III)I"⟩ ∈ lw_good := lw_t (i := 1732) (by decide +kernel) (by decide +kernel)
theorem tw1731 : Cond.methodLink "RiverIfsModel" 326 ⟨"RiverIfsModel", "reckon", "(III)I"⟩ ∈ lw_good := lw_t (i := 1731) (by decide +kernel) (by decide +kernel)
theorem cX12_326 : CS RX12 326 mX12_reckon 3 := ⟨cmX12_reckon _ _, tw1731, tw1732⟩
theorem tw1726 : Cond.code ⟨"RiverIfsModel", "worthOf", "(I)I"⟩ prog_14_method_48_code 4 (some .int) ∈ lw_good := lw_t (i := 1726) (by decide +kernel) (by decide +kernel)
theorem cmX12_worthOf (own : String) (idx : Nat) : CM own idx mX12_worthOf 1 := ⟨⟨by decide +kernel, rfl, by decide⟩, ⟨tw1726, tw13⟩, by decide +kernel, by decide +kernel, by decide +kernel⟩
theorem tw1725 : Cond.instanceMethod ⟨"RiverIfsModel", "worthOf", "(I)I"⟩ ∈ lw_good := lw_t (i := 1725) (by decide +kernel) (by decide +kernel)
theorem ts79 : Cond.selects "RiverIfsModel" ⟨"RiverIfsModel", "worthOf", "(I)I"⟩ ⟨"RiverIfsModel", "worthOf", "(I)I"⟩ ∈ lw_good := lw_s (i := 79) (by decide +kernel) (by decide +kernel)
theorem tw1723 : Cond.methodLink "RiverIfsModel" 330 ⟨"RiverIfsModel", "worthOf", "(I)I"⟩ ∈ lw_good := lw_t (i := 1723) (by decide +kernel) (by decide +kernel)
theorem cX12_330 : CV RX12 330 mX12_worthOf 1 12 := ⟨cmX12_worthOf _ _, _, _, _, rfl, tw1723, tw1725, ts79⟩
theorem tw1714 : Cond.code ⟨"RiverIfsModel", "thereOf", "(I)I"⟩ prog_14_method_46_code 2 (some .int) ∈ lw_good := lw_t (i := 1714) (by decide +kernel) (by decide +kernel)
theorem cmX12_thereOf (own : String) (idx : Nat) : CM own idx mX12_thereOf 1 := ⟨⟨by decide +kernel, rfl, by decide⟩, ⟨tw1714, tw13⟩, by decide +kernel, by decide +kernel, by decide +kernel⟩
theorem tw1713 : Cond.instanceMethod ⟨"RiverIfsModel", "thereOf", "(I)I"⟩ ∈ lw_good := lw_t (i := 1713) (by decide +kernel) (by decide +kernel)
theorem ts76 : Cond.selects "RiverIfsModel" ⟨"RiverIfsModel", "thereOf", "(I)I"⟩ ⟨"RiverIfsModel", "thereOf", "(I)I"⟩ ∈ lw_good := lw_s (i := 76) (by decide +kernel) (by decide +kernel)
theorem tw1711 : Cond.methodLink "RiverIfsModel" 333 ⟨"RiverIfsModel", "thereOf", "(I)I"⟩ ∈ lw_good := lw_t (i := 1711) (by decide +kernel) (by decide +kernel)
theorem cX12_333 : CV RX12 333 mX12_thereOf 1 12 := ⟨cmX12_thereOf _ _, _, _, _, rfl, tw1711, tw1713, ts76⟩
theorem tw1718 : Cond.code ⟨"RiverIfsModel", "sparedOf", "(I)I"⟩ prog_14_method_47_code 2 (some .int) ∈ lw_good := lw_t (i := 1718) (by decide +kernel) (by decide +kernel)
theorem cmX12_sparedOf (own : String) (idx : Nat) : CM own idx mX12_sparedOf 1 := ⟨⟨by decide +kernel, rfl, by decide⟩, ⟨tw1718, tw13⟩, by decide +kernel, by decide +kernel, by decide +kernel⟩
theorem tw1717 : Cond.instanceMethod ⟨"RiverIfsModel", "sparedOf", "(I)I"⟩ ∈ lw_good := lw_t (i := 1717) (by decide +kernel) (by decide +kernel)
theorem ts77 : Cond.selects "RiverIfsModel" ⟨"RiverIfsModel", "sparedOf", "(I)I"⟩ ⟨"RiverIfsModel", "sparedOf", "(I)I"⟩ ∈ lw_good := lw_s (i := 77) (by decide +kernel) (by decide +kernel)
theorem tw1715 : Cond.methodLink "RiverIfsModel" 336 ⟨"RiverIfsModel", "sparedOf", "(I)I"⟩ ∈ lw_good := lw_t (i := 1715) (by decide +kernel) (by decide +kernel)
theorem cX12_336 : CV RX12 336 mX12_sparedOf 1 12 := ⟨cmX12_sparedOf _ _, _, _, _, rfl, tw1715, tw1717, ts77⟩
theorem tw1730 : Cond.code ⟨"RiverIfsModel", "valueNow", "()I"⟩ prog_14_method_50_code 4 (some .int) ∈ lw_good := lw_t (i := 1730) (by decide +kernel) (by decide +kernel)
theorem cmX12_valueNow (own : String) (idx : Nat) : CM own idx mX12_valueNow 0 := ⟨⟨by decide +kernel, rfl, by decide⟩, ⟨tw1730, tw13⟩, by decide +kernel, by decide +kernel, by decide +kernel⟩
theorem tw1729 : Cond.instanceMethod ⟨"RiverIfsModel", "valueNow", "()I"⟩ ∈ lw_good := lw_t (i := 1729) (by decide +kernel) (by decide +kernel)
theorem ts80 : Cond.selects "RiverIfsModel" ⟨"RiverIfsModel", "valueNow", "()I"⟩ ⟨"RiverIfsModel", "valueNow", "()I"⟩ ∈ lw_good := lw_s (i := 80) (by decide +kernel) (by decide +kernel)
theorem tw1727 : Cond.methodLink "RiverIfsModel" 339 ⟨"RiverIfsModel", "valueNow", "()I"⟩ ∈ lw_good := lw_t (i := 1727) (by decide +kernel) (by decide +kernel)
theorem cX12_339 : CV RX12 339 mX12_valueNow 0 12 := ⟨cmX12_valueNow _ _, _, _, _, rfl, tw1727, tw1729, ts80⟩
theorem tw1722 : Cond.code ⟨"RiverIfsModel", "wants", "(I)Z"⟩ prog_14_method_51_code 2 (some .boolean) ∈ lw_good := lw_t (i := 1722) (by decide +kernel) (by decide +kernel)
theorem cmX12_wants (own : String) (idx : Nat) : CM own idx mX12_wants 1 := ⟨⟨by decide +kernel, rfl, by decide⟩, ⟨tw1722, tw13⟩, by decide +kernel, by decide +kernel, by decide +kernel⟩
theorem tw1721 : Cond.instanceMethod ⟨"RiverIfsModel", "wants", "(I)Z"⟩ ∈ lw_good := lw_t (i := 1721) (by decide +kernel) (by decide +kernel)
theorem ts78 : Cond.selects "RiverIfsModel" ⟨"RiverIfsModel", "wants", "(I)Z"⟩ ⟨"RiverIfsModel", "wants", "(I)Z"⟩ ∈ lw_good := lw_s (i := 78) (by decide +kernel) (by decide +kernel)
theorem tw1719 : Cond.methodLink "RiverIfsModel" 342 ⟨"RiverIfsModel", "wants", "(I)Z"⟩ ∈ lw_good := lw_t (i := 1719) (by decide +kernel) (by decide +kernel)
theorem cX12_342 : CV RX12 342 mX12_wants 1 12 := ⟨cmX12_wants _ _, _, _, _, rfl, tw1719, tw1721, ts78⟩
theorem tw1762 : Cond.code ⟨"RiverIfsModel", "wanting", "()I"⟩ prog_14_method_52_code 3 (some .int) ∈ lw_good := lw_t (i := 1762) (by decide +kernel) (by decide +kernel)
theorem cmX12_wanting (own : String) (idx : Nat) : CM own idx mX12_wanting 0 := ⟨⟨by decide +kernel, rfl, by decide⟩, ⟨tw1762, tw13⟩, by decide +kernel, by decide +kernel, by decide +kernel⟩
theorem tw1761 : Cond.instanceMethod ⟨"RiverIfsModel", "wanting", "()I"⟩ ∈ lw_good := lw_t (i := 1761) (by decide +kernel) (by decide +kernel)
theorem ts86 : Cond.selects "RiverIfsModel" ⟨"RiverIfsModel", "wanting", "()I"⟩ ⟨"RiverIfsModel", "wanting", "()I"⟩ ∈ lw_good := lw_s (i := 86) (by decide +kernel) (by decide +kernel)
theorem tw1759 : Cond.methodLink "RiverIfsModel" 345 ⟨"RiverIfsModel", "wanting", "()I"⟩ ∈ lw_good := lw_t (i := 1759) (by decide +kernel) (by decide +kernel)
theorem cX12_345 : CV RX12 345 mX12_wanting 0 12 := ⟨cmX12_wanting _ _, _, _, _, rfl, tw1759, tw1761, ts86⟩
theorem tw1381 : Cond.fieldLink "RiverIfsModel" 348 "RiverIfsModel" "wanted" "I" ∈ lw_good := lw_t (i := 1381) (by decide +kernel) (by decide +kernel)
theorem fX12_348 : FL RX12 348 12 40 := ⟨_, _, _, rfl, by decide, inX12, tw1381, rfl⟩
theorem tw1766 : Cond.code ⟨"RiverIfsModel", "longingMost", "(I)I"⟩ prog_14_method_53_code 4 (some .int) ∈ lw_good := lw_t (i := 1766) (by decide +kernel) (by decide +kernel)
theorem cmX12_longingMost (own : String) (idx : Nat) : CM own idx mX12_longingMost 1 := ⟨⟨by decide +kernel, rfl, by decide⟩, ⟨tw1766, tw13⟩, by decide +kernel, by decide +kernel, by decide +kernel⟩
theorem tw1765 : Cond.instanceMethod ⟨"RiverIfsModel", "longingMost", "(I)I"⟩ ∈ lw_good := lw_t (i := 1765) (by decide +kernel) (by decide +kernel)
theorem ts87 : Cond.selects "RiverIfsModel" ⟨"RiverIfsModel", "longingMost", "(I)I"⟩ ⟨"RiverIfsModel", "longingMost", "(I)I"⟩ ∈ lw_good := lw_s (i := 87) (by decide +kernel) (by decide +kernel)
theorem tw1763 : Cond.methodLink "RiverIfsModel" 351 ⟨"RiverIfsModel", "longingMost", "(I)I"⟩ ∈ lw_good := lw_t (i := 1763) (by decide +kernel) (by decide +kernel)
theorem cX12_351 : CV RX12 351 mX12_longingMost 1 12 := ⟨cmX12_longingMost _ _, _, _, _, rfl, tw1763, tw1765, ts87⟩
theorem tw1767 : Cond.methodLink "RiverIfsModel" 354 ⟨"java/lang/Math", "max", "(II)I"⟩ ∈ lw_good := lw_t (i := 1767) (by decide +kernel) (by decide +kernel)
theorem cX12_354 : Cond.methodLink RX12 354 Lib.Math.max.name ∈ lw_good := tw1767
theorem tw1770 : Cond.code ⟨"RiverIfsModel", "bitsOf", "(I)I"⟩ prog_14_method_7_code 3 (some .int) ∈ lw_good := lw_t (i := 1770) (by decide +kernel) (by decide +kernel)
theorem cmX12_bitsOf (own : String) (idx : Nat) : CM own idx mX12_bitsOf 1 := ⟨⟨by decide +kernel, rfl, by decide⟩, ⟨tw1770, tw13⟩, by decide +kernel, by decide +kernel, by decide +kernel⟩
theorem tw1769 : Cond.static ⟨"RiverIfsModel", "bitsOf", "(I)I"⟩ ∈ lw_good := lw_t (i := 1769) (by decide +kernel) (by decide +kernel)
theorem tw1768 : Cond.methodLink "RiverIfsModel" 357 ⟨"RiverIfsModel", "bitsOf", "(I)I"⟩ ∈ lw_good := lw_t (i := 1768) (by decide +kernel) (by decide +kernel)
theorem cX12_357 : CS RX12 357 mX12_bitsOf 1 := ⟨cmX12_bitsOf _ _, tw1768, tw1769⟩
theorem tw1758 : Cond.code ⟨"RiverIfsModel", "aSunday", "()V"⟩ prog_14_method_54_code 6 (none) ∈ lw_good := lw_t (i := 1758) (by decide +kernel) (by decide +kernel)
theorem cmX12_aSunday (own : String) (idx : Nat) : CM own idx mX12_aSunday 0 := ⟨⟨by decide +kernel, rfl, by decide⟩, ⟨tw1758, tw13⟩, by decide +kernel, by decide +kernel, by decide +kernel⟩
theorem tw1757 : Cond.instanceMethod ⟨"RiverIfsModel", "aSunday", "()V"⟩ ∈ lw_good := lw_t (i := 1757) (by decide +kernel) (by decide +kernel)
theorem ts85 : Cond.selects "RiverIfsModel" ⟨"RiverIfsModel", "aSunday", "()V"⟩ ⟨"RiverIfsModel", "aSunday", "()V"⟩ ∈ lw_good := lw_s (i := 85) (by decide +kernel) (by decide +kernel)
theorem tw1755 : Cond.methodLink "RiverIfsModel" 360 ⟨"RiverIfsModel", "aSunday", "()V"⟩ ∈ lw_good := lw_t (i := 1755) (by decide +kernel) (by decide +kernel)
theorem cX12_360 : CV RX12 360 mX12_aSunday 0 12 := ⟨cmX12_aSunday _ _, _, _, _, rfl, tw1755, tw1757, ts85⟩
theorem tw1683 : Cond.code ⟨"RiverIfsModel", "led", "(I)I"⟩ prog_14_method_58_code 4 (some .int) ∈ lw_good := lw_t (i := 1683) (by decide +kernel) (by decide +kernel)
theorem cmX12_led (own : String) (idx : Nat) : CM own idx mX12_led 1 := ⟨⟨by decide +kernel, rfl, by decide⟩, ⟨tw1683, tw13⟩, by decide +kernel, by decide +kernel, by decide +kernel⟩
theorem tw1682 : Cond.instanceMethod ⟨"RiverIfsModel", "led", "(I)I"⟩ ∈ lw_good := lw_t (i := 1682) (by decide +kernel) (by decide +kernel)
theorem ts73 : Cond.selects "RiverIfsModel" ⟨"RiverIfsModel", "led", "(I)I"⟩ ⟨"RiverIfsModel", "led", "(I)I"⟩ ∈ lw_good := lw_s (i := 73) (by decide +kernel) (by decide +kernel)
theorem tw1680 : Cond.methodLink "RiverIfsModel" 363 ⟨"RiverIfsModel", "led", "(I)I"⟩ ∈ lw_good := lw_t (i := 1680) (by decide +kernel) (by decide +kernel)
theorem cX12_363 : CV RX12 363 mX12_led 1 12 := ⟨cmX12_led _ _, _, _, _, rfl, tw1680, tw1682, ts73⟩
theorem tw1679 : Cond.code ⟨"RiverIfsModel", "leadsIn", "(II)I"⟩ prog_14_method_59_code 5 (some .int) ∈ lw_good := lw_t (i := 1679) (by decide +kernel) (by decide +kernel)
theorem cmX12_leadsIn (own : String) (idx : Nat) : CM own idx mX12_leadsIn 2 := ⟨⟨by decide +kernel, rfl, by decide⟩, ⟨tw1679, tw13⟩, by decide +kernel, by decide +kernel, by decide +kernel⟩
theorem tw1678 : Cond.instanceMethod ⟨"RiverIfsModel", "leadsIn", "(II)I"⟩ ∈ lw_good := lw_t (i := 1678) (by decide +kernel) (by decide +kernel)
theorem ts72 : Cond.selects "RiverIfsModel" ⟨"RiverIfsModel", "leadsIn", "(II)I"⟩ ⟨"RiverIfsModel", "leadsIn", "(II)I"⟩ ∈ lw_good := lw_s (i := 72) (by decide +kernel) (by decide +kernel)
theorem tw1676 : Cond.methodLink "RiverIfsModel" 366 ⟨"RiverIfsModel", "leadsIn", "(II)I"⟩ ∈ lw_good := lw_t (i := 1676) (by decide +kernel) (by decide +kernel)
theorem cX12_366 : CV RX12 366 mX12_leadsIn 2 12 := ⟨cmX12_leadsIn _ _, _, _, _, rfl, tw1676, tw1678, ts72⟩
theorem tw1655 : Cond.code ⟨"RiverIfsModel", "idle", "()I"⟩ prog_14_method_56_code 6 (some .int) ∈ lw_good := lw_t (i := 1655) (by decide +kernel) (by decide +kernel)
theorem cmX12_idle (own : String) (idx : Nat) : CM own idx mX12_idle 0 := ⟨⟨by decide +kernel, rfl, by decide⟩, ⟨tw1655, tw13⟩, by decide +kernel, by decide +kernel, by decide +kernel⟩
theorem tw1654 : Cond.instanceMethod ⟨"RiverIfsModel", "idle", "()I"⟩ ∈ lw_good := lw_t (i := 1654) (by decide +kernel) (by decide +kernel)
theorem ts66 : Cond.selects "RiverIfsModel" ⟨"RiverIfsModel", "idle", "()I"⟩ ⟨"RiverIfsModel", "idle", "()I"⟩ ∈ lw_good := lw_s (i := 66) (by decide +kernel) (by decide +kernel)
theorem tw1652 : Cond.methodLink "RiverIfsModel" 369 ⟨"RiverIfsModel", "idle", "()I"⟩ ∈ lw_good := lw_t (i := 1652) (by decide +kernel) (by decide +kernel)
theorem cX12_369 : CV RX12 369 mX12_idle 0 12 := ⟨cmX12_idle _ _, _, _, _, rfl, tw1652, tw1654, ts66⟩
theorem tw1671 : Cond.code ⟨"RiverIfsModel", "ends", "()I"⟩ prog_14_method_57_code 4 (some .int) ∈ lw_good := lw_t (i := 1671) (by decide +kernel) (by decide +kernel)
theorem cmX12_ends (own : String) (idx : Nat) : CM own idx mX12_ends 0 := ⟨⟨by decide +kernel, rfl, by decide⟩, ⟨tw1671, tw13⟩, by decide +kernel, by decide +kernel, by decide +kernel⟩
theorem tw1670 : Cond.instanceMethod ⟨"RiverIfsModel", "ends", "()I"⟩ ∈ lw_good := lw_t (i := 1670) (by decide +kernel) (by decide +kernel)
theorem ts70 : Cond.selects "RiverIfsModel" ⟨"RiverIfsModel", "ends", "()I"⟩ ⟨"RiverIfsModel", "ends", "()I"⟩ ∈ lw_good := lw_s (i := 70) (by decide +kernel) (by decide +kernel)
theorem tw1668 : Cond.methodLink "RiverIfsModel" 372 ⟨"RiverIfsModel", "ends", "()I"⟩ ∈ lw_good := lw_t (i := 1668) (by decide +kernel) (by decide +kernel)
theorem cX12_372 : CV RX12 372 mX12_ends 0 12 := ⟨cmX12_ends _ _, _, _, _, rfl, tw1668, tw1670, ts70⟩
theorem tw1675 : Cond.code ⟨"RiverIfsModel", "ring", "()I"⟩ prog_14_method_60_code 4 (some .int) ∈ lw_good := lw_t (i := 1675) (by decide +kernel) (by decide +kernel)
theorem cmX12_ring (own : String) (idx : Nat) : CM own idx mX12_ring 0 := ⟨⟨by decide +kernel, rfl, by decide⟩, ⟨tw1675, tw13⟩, by decide +kernel, by decide +kernel, by decide +kernel⟩
theorem tw1674 : Cond.instanceMethod ⟨"RiverIfsModel", "ring", "()I"⟩ ∈ lw_good := lw_t (i := 1674) (by decide +kernel) (by decide +kernel)
theorem ts71 : Cond.selects "RiverIfsModel" ⟨"RiverIfsModel", "ring", "()I"⟩ ⟨"RiverIfsModel", "ring", "()I"⟩ ∈ lw_good := lw_s (i := 71) (by decide +kernel) (by decide +kernel)
theorem tw1672 : Cond.methodLink "RiverIfsModel" 375 ⟨"RiverIfsModel", "ring", "()I"⟩ ∈ lw_good := lw_t (i := 1672) (by decide +kernel) (by decide +kernel)
theorem cX12_375 : CV RX12 375 mX12_ring 0 12 := ⟨cmX12_ring _ _, _, _, _, rfl, tw1672, tw1674, ts71⟩
theorem tw1690 : Cond.code ⟨"RiverIfsModel", "isThing", "(I)Z"⟩ prog_14_method_10_code 1 (some .boolean) ∈ lw_good := lw_t (i := 1690) (by decide +kernel) (by decide +kernel)
theorem cmX12_isThing (own : String) (idx : Nat) : CM own idx mX12_isThing 1 := ⟨⟨by decide +kernel, rfl, by decide⟩, ⟨tw1690, tw13⟩, by decide +kernel, by decide +kernel, by decide +kernel⟩
theorem tw1689 : Cond.static ⟨"RiverIfsModel", "isThing", "(I)Z"⟩ ∈ lw_good := lw_t (i := 1689) (by decide +kernel) (by decide +kernel)
theorem tw1688 : Cond.methodLink "RiverIfsModel" 378 ⟨"RiverIfsModel", "isThing", "(I)Z"⟩ ∈ lw_good := lw_t (i := 1688) (by decide +kernel) (by decide +kernel)
theorem cX12_378 : CS RX12 378 mX12_isThing 1 := ⟨cmX12_isThing _ _, tw1688, tw1689⟩
theorem tw1702 : Cond.code ⟨"RiverIfsModel", "isIf", "(I)Z"⟩ prog_14_method_9_code 2 (some .boolean) ∈ lw_good := lw_t (i := 1702) (by decide +kernel) (by decide +kernel)
theorem cmX12_isIf (own : String) (idx : Nat) : CM own idx mX12_isIf 1 := ⟨⟨by decide +kernel, rfl, by decide⟩, ⟨tw1702, tw13⟩, by decide +kernel, by decide +kernel, by decide +kernel⟩
theorem tw1701 : Cond.instanceMethod ⟨"RiverIfsModel", "isIf", "(I)Z"⟩ ∈ lw_good := lw_t (i := 1701) (by decide +kernel) (by decide +kernel)
theorem ts74 : Cond.selects "RiverIfsModel" ⟨"RiverIfsModel", "isIf", "(I)Z"⟩ ⟨"RiverIfsModel", "isIf", "(I)Z"⟩ ∈ lw_good := lw_s (i := 74) (by decide +kernel) (by decide +kernel)
theorem tw1699 : Cond.methodLink "RiverIfsModel" 381 ⟨"RiverIfsModel", "isIf", "(I)Z"⟩ ∈ lw_good := lw_t (i := 1699) (by decide +kernel) (by decide +kernel)
theorem cX12_381 : CV RX12 381 mX12_isIf 1 12 := ⟨cmX12_isIf _ _, _, _, _, rfl, tw1699, tw1701, ts74⟩
theorem tw1710 : Cond.code ⟨"RiverIfsModel", "isPerson", "(I)Z"⟩ prog_14_method_8_code 2 (some .boolean) ∈ lw_good := lw_t (i := 1710) (by decide +kernel) (by decide +kernel)
theorem cmX12_isPerson (own : String) (idx : Nat) : CM own idx mX12_isPerson 1 := ⟨⟨by decide +kernel, rfl, by decide⟩, ⟨tw1710, tw13⟩, by decide +kernel, by decide +kernel, by decide +kernel⟩
theorem tw1709 : Cond.instanceMethod ⟨"RiverIfsModel", "isPerson", "(I)Z"⟩ ∈ lw_good := lw_t (i := 1709) (by decide +kernel) (by decide +kernel)
theorem ts75 : Cond.selects "RiverIfsModel" ⟨"RiverIfsModel", "isPerson", "(I)Z"⟩ ⟨"RiverIfsModel", "isPerson", "(I)Z"⟩ ∈ lw_good := lw_s (i := 75) (by decide +kernel) (by decide +kernel)
theorem tw1707 : Cond.methodLink "RiverIfsModel" 384 ⟨"RiverIfsModel", "isPerson", "(I)Z"⟩ ∈ lw_good := lw_t (i := 1707) (by decide +kernel) (by decide +kernel)
theorem cX12_384 : CV RX12 384 mX12_isPerson 1 12 := ⟨cmX12_isPerson _ _, _, _, _, rfl, tw1707, tw1709, ts75⟩
theorem tw1750 : Cond.code ⟨"RiverIfsModel", "pack", "([II)V"⟩ prog_14_method_41_code 4 (none) ∈ lw_good := lw_t (i := 1750) (by decide +kernel) (by decide +kernel)
theorem cmX12_pack (own : String) (idx : Nat) : CM own idx mX12_pack 2 := ⟨⟨by decide +kernel, rfl, by decide⟩, ⟨tw1750, tw13⟩, by decide +kernel, by decide +kernel, by decide +kernel⟩
theorem tw1749 : Cond.instanceMethod ⟨"RiverIfsModel", "pack", "([II)V"⟩ ∈ lw_good := lw_t (i := 1749) (by decide +kernel) (by decide +kernel)
theorem ts83 : Cond.selects "RiverIfsModel" ⟨"RiverIfsModel", "pack", "([II)V"⟩ ⟨"RiverIfsModel", "pack", "([II)V"⟩ ∈ lw_good := lw_s (i := 83) (by decide +kernel) (by decide +kernel)
theorem tw1747 : Cond.methodLink "RiverIfsModel" 387 ⟨"RiverIfsModel", "pack", "([II)V"⟩ ∈ lw_good := lw_t (i := 1747) (by decide +kernel) (by decide +kernel)
theorem cX12_387 : CV RX12 387 mX12_pack 2 12 := ⟨cmX12_pack _ _, _, _, _, rfl, tw1747, tw1749, ts83⟩
theorem lX12_391 : Cond.constantLong "RiverIfsModel" 391 (20) ∈ lw_good := lw_t (i := 1738) (by decide +kernel) (by decide +kernel)
theorem tw1742 : Cond.code ⟨"RiverIfsModel", "refuse", "(I)I"⟩ prog_14_method_65_code 2 (some .int) ∈ lw_good := lw_t (i := 1742) (by decide +kernel) (by decide +kernel)
theorem cmX12_refuse (own : String) (idx : Nat) : CM own idx mX12_refuse 1 := ⟨⟨by decide +kernel, rfl, by decide⟩, ⟨tw1742, tw13⟩, by decide +kernel, by decide +kernel, by decide +kernel⟩
theorem tw1741 : Cond.instanceMethod ⟨"RiverIfsModel", "refuse", "(I)I"⟩ ∈ lw_good := lw_t (i := 1741) (by decide +kernel) (by decide +kernel)
theorem ts81 : Cond.selects "RiverIfsModel" ⟨"RiverIfsModel", "refuse", "(I)I"⟩ ⟨"RiverIfsModel", "refuse", "(I)I"⟩ ∈ lw_good := lw_s (i := 81) (by decide +kernel) (by decide +kernel)
theorem tw1739 : Cond.methodLink "RiverIfsModel" 393 ⟨"RiverIfsModel", "refuse", "(I)I"⟩ ∈ lw_good := lw_t (i := 1739) (by decide +kernel) (by decide +kernel)
theorem cX12_393 : CV RX12 393 mX12_refuse 1 12 := ⟨cmX12_refuse _ _, _, _, _, rfl, tw1739, tw1741, ts81⟩
theorem tw1746 : Cond.code ⟨"RiverIfsModel", "keep", "()V"⟩ prog_14_method_66_code 2 (none) ∈ lw_good := lw_t (i := 1746) (by decide +kernel) (by decide +kernel)
theorem cmX12_keep (own : String) (idx : Nat) : CM own idx mX12_keep 0 := ⟨⟨by decide +kernel, rfl, by decide⟩, ⟨tw1746, tw13⟩, by decide +kernel, by decide +kernel, by decide +kernel⟩
theorem tw1745 : Cond.instanceMethod ⟨"RiverIfsModel", "keep", "()V"⟩ ∈ lw_good := lw_t (i := 1745) (by decide +kernel) (by decide +kernel)
theorem ts82 : Cond.selects "RiverIfsModel" ⟨"RiverIfsModel", "keep", "()V"⟩ ⟨"RiverIfsModel", "keep", "()V"⟩ ∈ lw_good := lw_s (i := 82) (by decide +kernel) (by decide +kernel)
theorem tw1743 : Cond.methodLink "RiverIfsModel" 396 ⟨"RiverIfsModel", "keep", "()V"⟩ ∈ lw_good := lw_t (i := 1743) (by decide +kernel) (by decide +kernel)
theorem cX12_396 : CV RX12 396 mX12_keep 0 12 := ⟨cmX12_keep _ _, _, _, _, rfl, tw1743, tw1745, ts82⟩
theorem tw1754 : Cond.code ⟨"RiverIfsModel", "goOn", "(I)V"⟩ prog_14_method_55_code 3 (none) ∈ lw_good := lw_t (i := 1754) (by decide +kernel) (by decide +kernel)
theorem cmX12_goOn (own : String) (idx : Nat) : CM own idx mX12_goOn 1 := ⟨⟨by decide +kernel, rfl, by decide⟩, ⟨tw1754, tw13⟩, by decide +kernel, by decide +kernel, by decide +kernel⟩
theorem tw1753 : Cond.instanceMethod ⟨"RiverIfsModel", "goOn", "(I)V"⟩ ∈ lw_good := lw_t (i := 1753) (by decide +kernel) (by decide +kernel)
theorem ts84 : Cond.selects "RiverIfsModel" ⟨"RiverIfsModel", "goOn", "(I)V"⟩ ⟨"RiverIfsModel", "goOn", "(I)V"⟩ ∈ lw_good := lw_s (i := 84) (by decide +kernel) (by decide +kernel)
theorem tw1751 : Cond.methodLink "RiverIfsModel" 399 ⟨"RiverIfsModel", "goOn", "(I)V"⟩ ∈ lw_good := lw_t (i := 1751) (by decide +kernel) (by decide +kernel)
theorem cX12_399 : CV RX12 399 mX12_goOn 1 12 := ⟨cmX12_goOn _ _, _, _, _, rfl, tw1751, tw1753, ts84⟩
theorem tw1786 : Cond.code ⟨"RiverIfsModel", "failing", "(I)Z"⟩ prog_14_method_4_code 2 (some .boolean) ∈ lw_good := lw_t (i := 1786) (by decide +kernel) (by decide +kernel)
theorem cmX12_failing (own : String) (idx : Nat) : CM own idx mX12_failing 1 := ⟨⟨by decide +kernel, rfl, by decide⟩, ⟨tw1786, tw13⟩, by decide +kernel, by decide +kernel, by decide +kernel⟩
theorem tw1785 : Cond.instanceMethod ⟨"RiverIfsModel", "failing", "(I)Z"⟩ ∈ lw_good := lw_t (i := 1785) (by decide +kernel) (by decide +kernel)
theorem ts88 : Cond.selects "RiverIfsModel" ⟨"RiverIfsModel", "failing", "(I)Z"⟩ ⟨"RiverIfsModel", "failing", "(I)Z"⟩ ∈ lw_good := lw_s (i := 88) (by decide +kernel) (by decide +kernel)
theorem tw1783 : Cond.methodLink "RiverIfsModel" 402 ⟨"RiverIfsModel", "failing", "(I)Z"⟩ ∈ lw_good := lw_t (i := 1783) (by decide +kernel) (by decide +kernel)
theorem cX12_402 : CV RX12 402 mX12_failing 1 12 := ⟨cmX12_failing _ _, _, _, _, rfl, tw1783, tw1785, ts88⟩
theorem lX12_405 : Cond.constantLong "RiverIfsModel" 405 (8) ∈ lw_good := lw_t (i := 1791) (by decide +kernel) (by decide +kernel)
theorem tw1799 : Cond.code ⟨"RiverIfsModel", "unpack", "([II)V"⟩ prog_14_method_42_code 4 (none) ∈ lw_good := lw_t (i := 1799) (by decide +kernel) (by decide +kernel)
theorem cmX12_unpack (own : String) (idx : Nat) : CM own idx mX12_unpack 2 := ⟨⟨by decide +kernel, rfl, by decide⟩, ⟨tw1799, tw13⟩, by decide +kernel, by decide +kernel, by decide +kernel⟩
theorem tw1798 : Cond.instanceMethod ⟨"RiverIfsModel", "unpack", "([II)V"⟩ ∈ lw_good := lw_t (i := 1798) (by decide +kernel) (by decide +kernel)
theorem ts89 : Cond.selects "RiverIfsModel" ⟨"RiverIfsModel", "unpack", "([II)V"⟩ ⟨"RiverIfsModel", "unpack", "([II)V"⟩ ∈ lw_good := lw_s (i := 89) (by decide +kernel) (by decide +kernel)
theorem tw1796 : Cond.methodLink "RiverIfsModel" 407 ⟨"RiverIfsModel", "unpack", "([II)V"⟩ ∈ lw_good := lw_t (i := 1796) (by decide +kernel) (by decide +kernel)
theorem cX12_407 : CV RX12 407 mX12_unpack 2 12 := ⟨cmX12_unpack _ _, _, _, _, rfl, tw1796, tw1798, ts89⟩
theorem lX12_410 : Cond.constantLong "RiverIfsModel" 410 (60) ∈ lw_good := lw_t (i := 1804) (by decide +kernel) (by decide +kernel)
theorem tw1835 : Cond.code ⟨"RiverIfsModel", "isSet", "(I)Z"⟩ prog_14_method_11_code 1 (some .boolean) ∈ lw_good := lw_t (i := 1835) (by decide +kernel) (by decide +kernel)
theorem cmX12_isSet (own : String) (idx : Nat) : CM own idx mX12_isSet 1 := ⟨⟨by decide +kernel, rfl, by decide⟩, ⟨tw1835, tw13⟩, by decide +kernel, by decide +kernel, by decide +kernel⟩
theorem tw1834 : Cond.static ⟨"RiverIfsModel", "isSet", "(I)Z"⟩ ∈ lw_good := lw_t (i := 1834) (by decide +kernel) (by decide +kernel)
theorem tw1833 : Cond.methodLink "RiverIfsModel" 412 ⟨"RiverIfsModel", "isSet", "(I)Z"⟩ ∈ lw_good := lw_t (i := 1833) (by decide +kernel) (by decide +kernel)
theorem cX12_412 : CS RX12 412 mX12_isSet 1 := ⟨cmX12_isSet _ _, tw1833, tw1834⟩
theorem tw1848 : Cond.code ⟨"RiverIfsModel", "parting", "(II)I"⟩ prog_14_method_82_code 6 (some .int) ∈ lw_good := lw_t (i := 1848) (by decide +kernel) (by decide +kernel)
theorem cmX12_parting (own : String) (idx : Nat) : CM own idx mX12_parting 2 := ⟨⟨by decide +kernel, rfl, by decide⟩, ⟨tw1848, tw13⟩, by decide +kernel, by decide +kernel, by decide +kernel⟩
theorem tw1847 : Cond.instanceMethod ⟨"RiverIfsModel", "parting", "(II)I"⟩ ∈ lw_good := lw_t (i := 1847) (by decide +kernel) (by decide +kernel)
theorem ts90 : Cond.selects "RiverIfsModel" ⟨"RiverIfsModel", "parting", "(II)I"⟩ ⟨"RiverIfsModel", "parting", "(II)I"⟩ ∈ lw_good := lw_s (i := 90) (by decide +kernel) (by decide +kernel)
theorem tw1845 : Cond.methodLink "RiverIfsModel" 415 ⟨"RiverIfsModel", "parting", "(II)I"⟩ ∈ lw_good := lw_t (i := 1845) (by decide +kernel) (by decide +kernel)
theorem cX12_415 : CV RX12 415 mX12_parting 2 12 := ⟨cmX12_parting _ _, _, _, _, rfl, tw1845, tw1847, ts90⟩
theorem lX12_418 : Cond.constantLong "RiverIfsModel" 418 (2) ∈ lw_good := lw_t (i := 1885) (by decide +kernel) (by decide +kernel)
theorem tw1889 : Cond.code ⟨"RiverIfsModel", "worthBy", "(II)I"⟩ prog_14_method_92_code 3 (some .int) ∈ lw_good := lw_t (i := 1889) (by decide +kernel) (by decide +kernel)
theorem cmX12_worthBy (own : String) (idx : Nat) : CM own idx mX12_worthBy 2 := ⟨⟨by decide +kernel, rfl, by decide⟩, ⟨tw1889, tw13⟩, by decide +kernel, by decide +kernel, by decide +kernel⟩
theorem tw1888 : Cond.instanceMethod ⟨"RiverIfsModel", "worthBy", "(II)I"⟩ ∈ lw_good := lw_t (i := 1888) (by decide +kernel) (by decide +kernel)
theorem ts91 : Cond.selects "RiverIfsModel" ⟨"RiverIfsModel", "worthBy", "(II)I"⟩ ⟨"RiverIfsModel", "worthBy", "(II)I"⟩ ∈ lw_good := lw_s (i := 91) (by decide +kernel) (by decide +kernel)
theorem tw1886 : Cond.methodLink "RiverIfsModel" 420 ⟨"RiverIfsModel", "worthBy", "(II)I"⟩ ∈ lw_good := lw_t (i := 1886) (by decide +kernel) (by decide +kernel)
theorem cX12_420 : CV RX12 420 mX12_worthBy 2 12 := ⟨cmX12_worthBy _ _, _, _, _, rfl, tw1886, tw1888, ts91⟩
theorem tw1925 : Cond.code ⟨"RiverIfsModel", "isAsSeen", "(II)Z"⟩ prog_14_method_100_code 5 (some .boolean) ∈ lw_good := lw_t (i := 1925) (by decide +kernel) (by decide +kernel)
theorem cmX12_isAsSeen (own : String) (idx : Nat) : CM own idx mX12_isAsSeen 2 := ⟨⟨by decide +kernel, rfl, by decide⟩, ⟨tw1925, tw13⟩, by decide +kernel, by decide +kernel, by decide +kernel⟩
theorem tw1924 : Cond.instanceMethod ⟨"RiverIfsModel", "isAsSeen", "(II)Z"⟩ ∈ lw_good := lw_t (i := 1924) (by decide +kernel) (by decide +kernel)
theorem ts93 : Cond.selects "RiverIfsModel" ⟨"RiverIfsModel", "isAsSeen", "(II)Z"⟩ ⟨"RiverIfsModel", "isAsSeen", "(II)Z"⟩ ∈ lw_good := lw_s (i := 93) (by decide +kernel) (by decide +kernel)
theorem tw1922 : Cond.methodLink "RiverIfsModel" 423 ⟨"RiverIfsModel", "isAsSeen", "(II)Z"⟩ ∈ lw_good := lw_t (i := 1922) (by decide +kernel) (by decide +kernel)
theorem cX12_423 : CV RX12 423 mX12_isAsSeen 2 12 := ⟨cmX12_isAsSeen _ _, _, _, _, rfl, tw1922, tw1924, ts93⟩
theorem tw1921 : Cond.code ⟨"RiverIfsModel", "telling", "(I)I"⟩ prog_14_method_101_code 4 (some .int) ∈ lw_good := lw_t (i := 1921) (by decide +kernel) (by decide +kernel)
theorem cmX12_telling (own : String) (idx : Nat) : CM own idx mX12_telling 1 := ⟨⟨by decide +kernel, rfl, by decide⟩, ⟨tw1921, tw13⟩, by decide +kernel, by decide +kernel, by decide +kernel⟩
theorem tw1920 : Cond.instanceMethod ⟨"RiverIfsModel", "telling", "(I)I"⟩ ∈ lw_good := lw_t (i := 1920) (by decide +kernel) (by decide +kernel)
theorem ts92 : Cond.selects "RiverIfsModel" ⟨"RiverIfsModel", "telling", "(I)I"⟩ ⟨"RiverIfsModel", "telling", "(I)I"⟩ ∈ lw_good := lw_s (i := 92) (by decide +kernel) (by decide +kernel)
theorem tw1918 : Cond.methodLink "RiverIfsModel" 426 ⟨"RiverIfsModel", "telling", "(I)I"⟩ ∈ lw_good := lw_t (i := 1918) (by decide +kernel) (by decide +kernel)
theorem cX12_426 : CV RX12 426 mX12_telling 1 12 := ⟨cmX12_telling _ _, _, _, _, rfl, tw1918, tw1920, ts92⟩
theorem tw1941 : Cond.code ⟨"RiverIfsModel", "gain", "(IIII)I"⟩ prog_14_method_105_code 6 (some .int) ∈ lw_good := lw_t (i := 1941) (by decide +kernel) (by decide +kernel)
theorem cmX12_gain (own : String) (idx : Nat) : CM own idx mX12_gain 4 := ⟨⟨by decide +kernel, rfl, by decide⟩, ⟨tw1941, tw13⟩, by decide +kernel, by decide +kernel, by decide +kernel⟩
theorem tw1940 : Cond.instanceMethod ⟨"RiverIfsModel", "gain", "(IIII)I"⟩ ∈ lw_good := lw_t (i := 1940) (by decide +kernel) (by decide +kernel)
theorem ts94 : Cond.selects "RiverIfsModel" ⟨"RiverIfsModel", "gain", "(IIII)I"⟩ ⟨"RiverIfsModel", "gain", "(IIII)I"⟩ ∈ lw_good := lw_s (i := 94) (by decide +kernel) (by decide +kernel)
theorem tw1938 : Cond.methodLink "RiverIfsModel" 429 ⟨"RiverIfsModel", "gain", "(IIII)I"⟩ ∈ lw_good := lw_t (i := 1938) (by decide +kernel) (by decide +kernel)
theorem cX12_429 : CV RX12 429 mX12_gain 4 12 := ⟨cmX12_gain _ _, _, _, _, rfl, tw1938, tw1940, ts94⟩
theorem tw1388 : Cond.fieldLink "RiverIfsModel" 433 "RiverIfsModel" "seedNow" "I" ∈ lw_good := lw_t (i := 1388) (by decide +kernel) (by decide +kernel)
theorem fX12_433 : FL RX12 433 12 47 := ⟨_, _, _, rfl, by decide, inX12, tw1388, rfl⟩
theorem lX12_436 : Cond.constant "RiverIfsModel" 436 (1103515245) ∈ lw_good := lw_t (i := 1954) (by decide +kernel) (by decide +kernel)
theorem tw1953 : Cond.code ⟨"RiverIfsModel", "drawOf", "(I)I"⟩ prog_14_method_107_code 2 (some .int) ∈ lw_good := lw_t (i := 1953) (by decide +kernel) (by decide +kernel)
theorem cmX12_drawOf (own : String) (idx : Nat) : CM own idx mX12_drawOf 1 := ⟨⟨by decide +kernel, rfl, by decide⟩, ⟨tw1953, tw13⟩, by decide +kernel, by decide +kernel, by decide +kernel⟩
theorem tw1952 : Cond.instanceMethod ⟨"RiverIfsModel", "drawOf", "(I)I"⟩ ∈ lw_good := lw_t (i := 1952) (by decide +kernel) (by decide +kernel)
theorem ts96 : Cond.selects "RiverIfsModel" ⟨"RiverIfsModel", "drawOf", "(I)I"⟩ ⟨"RiverIfsModel", "drawOf", "(I)I"⟩ ∈ lw_good := lw_s (i := 96) (by decide +kernel) (by decide +kernel)
theorem tw1950 : Cond.methodLink "RiverIfsModel" 437 ⟨"RiverIfsModel", "drawOf", "(I)I"⟩ ∈ lw_good := lw_t (i := 1950) (by decide +kernel) (by decide +kernel)
theorem cX12_437 : CV RX12 437 mX12_drawOf 1 12 := ⟨cmX12_drawOf _ _, _, _, _, rfl, tw1950, tw1952, ts96⟩
theorem tw1949 : Cond.code ⟨"RiverIfsModel", "something", "()V"⟩ prog_14_method_108_code 4 (none) ∈ lw_good := lw_t (i := 1949) (by decide +kernel) (by decide +kernel)
theorem cmX12_something (own : String) (idx : Nat) : CM own idx mX12_something 0 := ⟨⟨by decide +kernel, rfl, by decide⟩, ⟨tw1949, tw13⟩, by decide +kernel, by decide +kernel, by decide +kernel⟩
theorem tw1948 : Cond.instanceMethod ⟨"RiverIfsModel", "something", "()V"⟩ ∈ lw_good := lw_t (i := 1948) (by decide +kernel) (by decide +kernel)
theorem ts95 : Cond.selects "RiverIfsModel" ⟨"RiverIfsModel", "something", "()V"⟩ ⟨"RiverIfsModel", "something", "()V"⟩ ∈ lw_good := lw_s (i := 95) (by decide +kernel) (by decide +kernel)
theorem tw1946 : Cond.methodLink "RiverIfsModel" 440 ⟨"RiverIfsModel", "something", "()V"⟩ ∈ lw_good := lw_t (i := 1946) (by decide +kernel) (by decide +kernel)
theorem cX12_440 : CV RX12 440 mX12_something 0 12 := ⟨cmX12_something _ _, _, _, _, rfl, tw1946, tw1948, ts95⟩
theorem tw1390 : Cond.fieldLink "RiverIfsModel" 443 "RiverIfsModel" "actsThen" "I" ∈ lw_good := lw_t (i := 1390) (by decide +kernel) (by decide +kernel)
theorem fX12_443 : FL RX12 443 12 49 := ⟨_, _, _, rfl, by decide, inX12, tw1390, rfl⟩
theorem tw1391 : Cond.fieldLink "RiverIfsModel" 446 "RiverIfsModel" "seenThen" "I" ∈ lw_good := lw_t (i := 1391) (by decide +kernel) (by decide +kernel)
theorem fX12_446 : FL RX12 446 12 50 := ⟨_, _, _, rfl, by decide, inX12, tw1391, rfl⟩
theorem tw1961 : Cond.code ⟨"RiverIfsModel", "copyTo", "([I[I)V"⟩ prog_14_method_110_code 3 (none) ∈ lw_good := lw_t (i := 1961) (by decide +kernel) (by decide +kernel)
theorem cmX12_copyTo (own : String) (idx : Nat) : CM own idx mX12_copyTo 2 := ⟨⟨by decide +kernel, rfl, by decide⟩, ⟨tw1961, tw13⟩, by decide +kernel, by decide +kernel, by decide +kernel⟩
theorem tw1960 : Cond.static ⟨"RiverIfsModel", "copyTo", "([I[I)V"⟩ ∈ lw_good := lw_t (i := 1960) (by decide +kernel) (by decide +kernel)
theorem tw1959 : Cond.methodLink "RiverIfsModel" 449 ⟨"RiverIfsModel", "copyTo", "([I[I)V"⟩ ∈ lw_good := lw_t (i := 1959) (by decide +kernel) (by decide +kernel)
theorem cX12_449 : CS RX12 449 mX12_copyTo 2 := ⟨cmX12_copyTo _ _, tw1959, tw1960⟩
theorem lJ6_265 : Cond.constant "java/lang/Integer" 265 (1431655765) ∈ lw_good := lw_t (i := 515) (by decide +kernel) (by decide +kernel)
theorem lJ6_266 : Cond.constant "java/lang/Integer" 266 (858993459) ∈ lw_good := lw_t (i := 516) (by decide +kernel) (by decide +kernel)
theorem lJ6_267 : Cond.constant "java/lang/Integer" 267 (252645135) ∈ lw_good := lw_t (i := 517) (by decide +kernel) (by decide +kernel)
theorem tw716 : Cond.code ⟨"java/lang/String", "coder", "()B"⟩ prog_24_method_152_code 1 (some .byte) ∈ lw_good := lw_t (i := 716) (by decide +kernel) (by decide +kernel)
theorem cmJ0_coder_7d493 (own : String) (idx : Nat) : CM own idx mJ0_coder_7d493 0 := ⟨⟨by decide +kernel, rfl, by decide⟩, ⟨tw716, tw20⟩, by decide +kernel, by decide +kernel, by decide +kernel⟩
theorem tw706 : Cond.code ⟨"java/lang/String", "isLatin1", "()Z"⟩ prog_24_method_154_code 1 (some .boolean) ∈ lw_good := lw_t (i := 706) (by decide +kernel) (by decide +kernel)
theorem cmJ0_isLatin1_aae02 (own : String) (idx : Nat) : CM own idx mJ0_isLatin1_aae02 0 := ⟨⟨by decide +kernel, rfl, by decide⟩, ⟨tw706, tw20⟩, by decide +kernel, by decide +kernel, by decide +kernel⟩
theorem tw793 : Cond.code ⟨"java/lang/StringLatin1", "charAt", "([BI)C"⟩ prog_25_method_2_code 2 (some .char) ∈ lw_good := lw_t (i := 793) (by decide +kernel) (by decide +kernel)
theorem tw21 : Cond.initialized "java/lang/StringLatin1" ∈ lw_good := lw_t (i := 21) (by decide +kernel) (by decide +kernel)
theorem cmJ1_charAt_3b067 (own : String) (idx : Nat) : CM own idx mJ1_charAt_3b067 2 := ⟨⟨by decide +kernel, rfl, by decide⟩, ⟨tw793, tw21⟩, by decide +kernel, by decide +kernel, by decide +kernel⟩
theorem tw792 : Cond.static ⟨"java/lang/StringLatin1", "charAt", "([BI)C"⟩ ∈ lw_good := lw_t (i := 792) (by decide +kernel) (by decide +kernel)
theorem tw791 : Cond.methodLink "java/lang/String" 495 ⟨"java/lang/StringLatin1", "charAt", "([BI)C"⟩ ∈ lw_good := lw_t (i := 791) (by decide +kernel) (by decide +kernel)
theorem cJ0_495 : CS RJ0 495 mJ1_charAt_3b067 2 := ⟨cmJ1_charAt_3b067 _ _, tw791, tw792⟩
theorem tw702 : Cond.code ⟨"java/lang/String", "indexOf", "(II)I"⟩ prog_24_method_80_code 3 (some .int) ∈ lw_good := lw_t (i := 702) (by decide +kernel) (by decide +kernel)
theorem cmJ0_indexOf_7cf53 (own : String) (idx : Nat) : CM own idx mJ0_indexOf_7cf53 2 := ⟨⟨by decide +kernel, rfl, by decide⟩, ⟨tw702, tw20⟩, by decide +kernel, by decide +kernel, by decide +kernel⟩
theorem tw719 : Cond.code ⟨"java/lang/StringLatin1", "indexOf", "([BIII)I"⟩ prog_25_method_22_code 4 (some .int) ∈ lw_good := lw_t (i := 719) (by decide +kernel) (by decide +kernel)
theorem cmJ1_indexOf_4cfef (own : String) (idx : Nat) : CM own idx mJ1_indexOf_4cfef 4 := ⟨⟨by decide +kernel, rfl, by decide⟩, ⟨tw719, tw21⟩, by decide +kernel, by decide +kernel, by decide +kernel⟩
theorem tw718 : Cond.static ⟨"java/lang/StringLatin1", "indexOf", "([BIII)I"⟩ ∈ lw_good := lw_t (i := 718) (by decide +kernel) (by decide +kernel)
theorem tw717 : Cond.methodLink "java/lang/String" 637 ⟨"java/lang/StringLatin1", "indexOf", "([BIII)I"⟩ ∈ lw_good := lw_t (i := 717) (by decide +kernel) (by decide +kernel)
theorem cJ0_637 : CS RJ0 637 mJ1_indexOf_4cfef 4 := ⟨cmJ1_indexOf_4cfef _ _, tw717, tw718⟩
theorem tw799 : Cond.code ⟨"jdk/internal/util/Preconditions", "checkIndex", "(IILjava/util/function/BiFunction;)I"⟩ prog_33_method_11_code 3 (some .int) ∈ lw_good := lw_t (i := 799) (by decide +kernel) (by decide +kernel)
theorem tw23 : Cond.initialized "jdk/internal/util/Preconditions" ∈ lw_good := lw_t (i := 23) (by decide +kernel) (by decide +kernel)
theorem cmJ3_checkIndex_8e157 (own : String) (idx : Nat) : CM own idx mJ3_checkIndex_8e157 3 := ⟨⟨by decide +kernel, rfl, by decide⟩, ⟨tw799, tw23⟩, by decide +kernel, by decide +kernel, by decide +kernel⟩
theorem tw798 : Cond.static ⟨"jdk/internal/util/Preconditions", "checkIndex", "(IILjava/util/function/BiFunction;)I"⟩ ∈ lw_good := lw_t (i := 798) (by decide +kernel) (by decide +kernel)
theorem tw797 : Cond.methodLink "java/lang/String" 1059 ⟨"jdk/internal/util/Preconditions", "checkIndex", "(IILjava/util/function/BiFunction;)I"⟩ ∈ lw_good := lw_t (i := 797) (by decide +kernel) (by decide +kernel)
theorem cJ0_1059 : CS RJ0 1059 mJ3_checkIndex_8e157 3 := ⟨cmJ3_checkIndex_8e157 _ _, tw797, tw798⟩
theorem tw750 : Cond.code ⟨"jdk/internal/util/Preconditions", "checkFromToIndex", "(IIILjava/util/function/BiFunction;)I"⟩ prog_33_method_12_code 4 (some .int) ∈ lw_good := lw_t (i := 750) (by decide +kernel) (by decide +kernel)
theorem cmJ3_checkFromToIndex_8c36e (own : String) (idx : Nat) : CM own idx mJ3_checkFromToIndex_8c36e 4 := ⟨⟨by decide +kernel, rfl, by decide⟩, ⟨tw750, tw23⟩, by decide +kernel, by decide +kernel, by decide +kernel⟩
theorem tw749 : Cond.static ⟨"jdk/internal/util/Preconditions", "checkFromToIndex", "(IIILjava/util/function/BiFunction;)I"⟩ ∈ lw_good := lw_t (i := 749) (by decide +kernel) (by decide +kernel)
theorem tw748 : Cond.methodLink "java/lang/String" 1062 ⟨"jdk/internal/util/Preconditions", "checkFromToIndex", "(IIILjava/util/function/BiFunction;)I"⟩ ∈ lw_good := lw_t (i := 748) (by decide +kernel) (by decide +kernel)
theorem cJ0_1062 : CS RJ0 1062 mJ3_checkFromToIndex_8c36e 4 := ⟨cmJ3_checkFromToIndex_8c36e _ _, tw748, tw749⟩
theorem tw796 : Cond.code ⟨"java/lang/String", "checkIndex", "(II)V"⟩ prog_24_method_155_code 2 (none) ∈ lw_good := lw_t (i := 796) (by decide +kernel) (by decide +kernel)
theorem cmJ0_checkIndex_df160 (own : String) (idx : Nat) : CM own idx mJ0_checkIndex_df160 2 := ⟨⟨by decide +kernel, rfl, by decide⟩, ⟨tw796, tw20⟩, by decide +kernel, by decide +kernel, by decide +kernel⟩
theorem tw795 : Cond.static ⟨"java/lang/String", "checkIndex", "(II)V"⟩ ∈ lw_good := lw_t (i := 795) (by decide +kernel) (by decide +kernel)
theorem tw794 : Cond.methodLink "java/lang/StringLatin1" 9 ⟨"java/lang/String", "checkIndex", "(II)V"⟩ ∈ lw_good := lw_t (i := 794) (by decide +kernel) (by decide +kernel)
theorem cJ1_9 : CS RJ1 9 mJ0_checkIndex_df160 2 := ⟨cmJ0_checkIndex_df160 _ _, tw794, tw795⟩
theorem tw722 : Cond.code ⟨"java/lang/StringLatin1", "canEncode", "(I)Z"⟩ prog_25_method_4_code 1 (some .boolean) ∈ lw_good := lw_t (i := 722) (by decide +kernel) (by decide +kernel)
theorem cmJ1_canEncode_9a6ad (own : String) (idx : Nat) : CM own idx mJ1_canEncode_9a6ad 1 := ⟨⟨by decide +kernel, rfl, by decide⟩, ⟨tw722, tw21⟩, by decide +kernel, by decide +kernel, by decide +kernel⟩
theorem tw721 : Cond.static ⟨"java/lang/StringLatin1", "canEncode", "(I)Z"⟩ ∈ lw_good := lw_t (i := 721) (by decide +kernel) (by decide +kernel)
theorem tw720 : Cond.methodLink "java/lang/StringLatin1" 88 ⟨"java/lang/StringLatin1", "canEncode", "(I)Z"⟩ ∈ lw_good := lw_t (i := 720) (by decide +kernel) (by decide +kernel)
theorem cJ1_88 : CS RJ1 88 mJ1_canEncode_9a6ad 1 := ⟨cmJ1_canEncode_9a6ad _ _, tw720, tw721⟩
theorem tw723 : Cond.methodLink "java/lang/StringLatin1" 92 ⟨"java/lang/Math", "max", "(II)I"⟩ ∈ lw_good := lw_t (i := 723) (by decide +kernel) (by decide +kernel)
theorem cJ1_92 : Cond.methodLink RJ1 92 Lib.Math.max.name ∈ lw_good := tw723
theorem tw724 : Cond.methodLink "java/lang/StringLatin1" 38 ⟨"java/lang/Math", "min", "(II)I"⟩ ∈ lw_good := lw_t (i := 724) (by decide +kernel) (by decide +kernel)
theorem cJ1_38 : Cond.methodLink RJ1 38 Lib.Math.min.name ∈ lw_good := tw724
theorem tw727 : Cond.code ⟨"java/lang/StringLatin1", "indexOfChar", "([BIII)I"⟩ prog_25_method_23_code 6 (some .int) ∈ lw_good := lw_t (i := 727) (by decide +kernel) (by decide +kernel)
theorem cmJ1_indexOfChar_4cfef (own : String) (idx : Nat) : CM own idx mJ1_indexOfChar_4cfef 4 := ⟨⟨by decide +kernel, rfl, by decide⟩, ⟨tw727, tw21⟩, by decide +kernel, by decide +kernel, by decide +kernel⟩
theorem tw726 : Cond.static ⟨"java/lang/StringLatin1", "indexOfChar", "([BIII)I"⟩ ∈ lw_good := lw_t (i := 726) (by decide +kernel) (by decide +kernel)
theorem tw725 : Cond.methodLink "java/lang/StringLatin1" 95 ⟨"java/lang/StringLatin1", "indexOfChar", "([BIII)I"⟩ ∈ lw_good := lw_t (i := 725) (by decide +kernel) (by decide +kernel)
theorem cJ1_95 : CS RJ1 95 mJ1_indexOfChar_4cfef 4 := ⟨cmJ1_indexOfChar_4cfef _ _, tw725, tw726⟩
theorem tw586 : Cond.code ⟨"RiverIfs", "shore", "(I)I"⟩ prog_1_method_3_code 3 (some .int) ∈ lw_good := lw_t (i := 586) (by decide +kernel) (by decide +kernel)
theorem cmX11_shore (own : String) (idx : Nat) : CM own idx mX11_shore 1 := ⟨⟨by decide +kernel, rfl, by decide⟩, ⟨tw586, tw1⟩, by decide +kernel, by decide +kernel, by decide +kernel⟩
theorem tw584 : Cond.instanceMethod ⟨"RiverIfs", "shore", "(I)I"⟩ ∈ lw_good := lw_t (i := 584) (by decide +kernel) (by decide +kernel)
theorem tw585 : Cond.selects "RiverIfs" ⟨"RiverIfs", "shore", "(I)I"⟩ ⟨"RiverIfs", "shore", "(I)I"⟩ ∈ lw_good := lw_t (i := 585) (by decide +kernel) (by decide +kernel)
theorem tw583 : Cond.methodLink "RiverIfsLaw" 7 ⟨"RiverIfs", "shore", "(I)I"⟩ ∈ lw_good := lw_t (i := 583) (by decide +kernel) (by decide +kernel)
theorem cL_7 : CV RL 7 mX11_shore 1 11 := ⟨cmX11_shore _ _, _, _, _, rfl, tw583, tw584, tw585⟩
theorem tw941 : Cond.code ⟨"RiverIfs", "count", "(I)I"⟩ prog_1_method_5_code 2 (some .int) ∈ lw_good := lw_t (i := 941) (by decide +kernel) (by decide +kernel)
theorem cmX11_count (own : String) (idx : Nat) : CM own idx mX11_count 1 := ⟨⟨by decide +kernel, rfl, by decide⟩, ⟨tw941, tw1⟩, by decide +kernel, by decide +kernel, by decide +kernel⟩
theorem tw939 : Cond.instanceMethod ⟨"RiverIfs", "count", "(I)I"⟩ ∈ lw_good := lw_t (i := 939) (by decide +kernel) (by decide +kernel)
theorem tw940 : Cond.selects "RiverIfs" ⟨"RiverIfs", "count", "(I)I"⟩ ⟨"RiverIfs", "count", "(I)I"⟩ ∈ lw_good := lw_t (i := 940) (by decide +kernel) (by decide +kernel)
theorem tw938 : Cond.methodLink "RiverIfsLaw" 15 ⟨"RiverIfs", "count", "(I)I"⟩ ∈ lw_good := lw_t (i := 938) (by decide +kernel) (by decide +kernel)
theorem cL_15 : CV RL 15 mX11_count 1 11 := ⟨cmX11_count _ _, _, _, _, rfl, tw938, tw939, tw940⟩
theorem tw989 : Cond.code ⟨"RiverIfs", "worth", "(I)I"⟩ prog_1_method_6_code 2 (some .int) ∈ lw_good := lw_t (i := 989) (by decide +kernel) (by decide +kernel)
theorem cmX11_worth (own : String) (idx : Nat) : CM own idx mX11_worth 1 := ⟨⟨by decide +kernel, rfl, by decide⟩, ⟨tw989, tw1⟩, by decide +kernel, by decide +kernel, by decide +kernel⟩
theorem tw987 : Cond.instanceMethod ⟨"RiverIfs", "worth", "(I)I"⟩ ∈ lw_good := lw_t (i := 987) (by decide +kernel) (by decide +kernel)
theorem tw988 : Cond.selects "RiverIfs" ⟨"RiverIfs", "worth", "(I)I"⟩ ⟨"RiverIfs", "worth", "(I)I"⟩ ∈ lw_good := lw_t (i := 988) (by decide +kernel) (by decide +kernel)
theorem tw986 : Cond.methodLink "RiverIfsLaw" 20 ⟨"RiverIfs", "worth", "(I)I"⟩ ∈ lw_good := lw_t (i := 986) (by decide +kernel) (by decide +kernel)
theorem cL_20 : CV RL 20 mX11_worth 1 11 := ⟨cmX11_worth _ _, _, _, _, rfl, tw986, tw987, tw988⟩
theorem tw1000 : Cond.code ⟨"RiverIfs", "conditional", "(II)I"⟩ prog_1_method_7_code 3 (some .int) ∈ lw_good := lw_t (i := 1000) (by decide +kernel) (by decide +kernel)
theorem cmX11_conditional (own : String) (idx : Nat) : CM own idx mX11_conditional 2 := ⟨⟨by decide +kernel, rfl, by decide⟩, ⟨tw1000, tw1⟩, by decide +kernel, by decide +kernel, by decide +kernel⟩
theorem tw998 : Cond.instanceMethod ⟨"RiverIfs", "conditional", "(II)I"⟩ ∈ lw_good := lw_t (i := 998) (by decide +kernel) (by decide +kernel)
theorem tw999 : Cond.selects "RiverIfs" ⟨"RiverIfs", "conditional", "(II)I"⟩ ⟨"RiverIfs", "conditional", "(II)I"⟩ ∈ lw_good := lw_t (i := 999) (by decide +kernel) (by decide +kernel)
theorem tw997 : Cond.methodLink "RiverIfsLaw" 23 ⟨"RiverIfs", "conditional", "(II)I"⟩ ∈ lw_good := lw_t (i := 997) (by decide +kernel) (by decide +kernel)
theorem cL_23 : CV RL 23 mX11_conditional 2 11 := ⟨cmX11_conditional _ _, _, _, _, rfl, tw997, tw998, tw999⟩
theorem tw1014 : Cond.code ⟨"RiverIfs", "person", "(II)I"⟩ prog_1_method_8_code 3 (some .int) ∈ lw_good := lw_t (i := 1014) (by decide +kernel) (by decide +kernel)
theorem cmX11_person (own : String) (idx : Nat) : CM own idx mX11_person 2 := ⟨⟨by decide +kernel, rfl, by decide⟩, ⟨tw1014, tw1⟩, by decide +kernel, by decide +kernel, by decide +kernel⟩
theorem tw1012 : Cond.instanceMethod ⟨"RiverIfs", "person", "(II)I"⟩ ∈ lw_good := lw_t (i := 1012) (by decide +kernel) (by decide +kernel)
theorem tw1013 : Cond.selects "RiverIfs" ⟨"RiverIfs", "person", "(II)I"⟩ ⟨"RiverIfs", "person", "(II)I"⟩ ∈ lw_good := lw_t (i := 1013) (by decide +kernel) (by decide +kernel)
theorem tw1011 : Cond.methodLink "RiverIfsLaw" 27 ⟨"RiverIfs", "person", "(II)I"⟩ ∈ lw_good := lw_t (i := 1011) (by decide +kernel) (by decide +kernel)
theorem cL_27 : CV RL 27 mX11_person 2 11 := ⟨cmX11_person _ _, _, _, _, rfl, tw1011, tw1012, tw1013⟩
theorem tw1033 : Cond.code ⟨"RiverIfs", "has", "(IIZ)I"⟩ prog_1_method_11_code 4 (some .int) ∈ lw_good := lw_t (i := 1033) (by decide +kernel) (by decide +kernel)
theorem cmX11_has (own : String) (idx : Nat) : CM own idx mX11_has 3 := ⟨⟨by decide +kernel, rfl, by decide⟩, ⟨tw1033, tw1⟩, by decide +kernel, by decide +kernel, by decide +kernel⟩
theorem tw1031 : Cond.instanceMethod ⟨"RiverIfs", "has", "(IIZ)I"⟩ ∈ lw_good := lw_t (i := 1031) (by decide +kernel) (by decide +kernel)
theorem tw1032 : Cond.selects "RiverIfs" ⟨"RiverIfs", "has", "(IIZ)I"⟩ ⟨"RiverIfs", "has", "(IIZ)I"⟩ ∈ lw_good := lw_t (i := 1032) (by decide +kernel) (by decide +kernel)
theorem tw1030 : Cond.methodLink "RiverIfsLaw" 30 ⟨"RiverIfs", "has", "(IIZ)I"⟩ ∈ lw_good := lw_t (i := 1030) (by decide +kernel) (by decide +kernel)
theorem cL_30 : CV RL 30 mX11_has 3 11 := ⟨cmX11_has _ _, _, _, _, rfl, tw1030, tw1031, tw1032⟩
theorem tw1040 : Cond.code ⟨"RiverIfs", "miss", "(II)I"⟩ prog_1_method_12_code 4 (some .int) ∈ lw_good := lw_t (i := 1040) (by decide +kernel) (by decide +kernel)
theorem cmX11_miss (own : String) (idx : Nat) : CM own idx mX11_miss 2 := ⟨⟨by decide +kernel, rfl, by decide⟩, ⟨tw1040, tw1⟩, by decide +kernel, by decide +kernel, by decide +kernel⟩
theorem tw1038 : Cond.instanceMethod ⟨"RiverIfs", "miss", "(II)I"⟩ ∈ lw_good := lw_t (i := 1038) (by decide +kernel) (by decide +kernel)
theorem tw1039 : Cond.selects "RiverIfs" ⟨"RiverIfs", "miss", "(II)I"⟩ ⟨"RiverIfs", "miss", "(II)I"⟩ ∈ lw_good := lw_t (i := 1039) (by decide +kernel) (by decide +kernel)
theorem tw1037 : Cond.methodLink "RiverIfsLaw" 34 ⟨"RiverIfs", "miss", "(II)I"⟩ ∈ lw_good := lw_t (i := 1037) (by decide +kernel) (by decide +kernel)
theorem cL_34 : CV RL 34 mX11_miss 2 11 := ⟨cmX11_miss _ _, _, _, _, rfl, tw1037, tw1038, tw1039⟩
theorem tw1047 : Cond.code ⟨"RiverIfs", "deny", "(IZ)Z"⟩ prog_1_method_13_code 3 (some .boolean) ∈ lw_good := lw_t (i := 1047) (by decide +kernel) (by decide +kernel)
theorem cmX11_deny (own : String) (idx : Nat) : CM own idx mX11_deny 2 := ⟨⟨by decide +kernel, rfl, by decide⟩, ⟨tw1047, tw1⟩, by decide +kernel, by decide +kernel, by decide +kernel⟩
theorem tw1045 : Cond.instanceMethod ⟨"RiverIfs", "deny", "(IZ)Z"⟩ ∈ lw_good := lw_t (i := 1045) (by decide +kernel) (by decide +kernel)
theorem tw1046 : Cond.selects "RiverIfs" ⟨"RiverIfs", "deny", "(IZ)Z"⟩ ⟨"RiverIfs", "deny", "(IZ)Z"⟩ ∈ lw_good := lw_t (i := 1046) (by decide +kernel) (by decide +kernel)
theorem tw1044 : Cond.methodLink "RiverIfsLaw" 37 ⟨"RiverIfs", "deny", "(IZ)Z"⟩ ∈ lw_good := lw_t (i := 1044) (by decide +kernel) (by decide +kernel)
theorem cL_37 : CV RL 37 mX11_deny 2 11 := ⟨cmX11_deny _ _, _, _, _, rfl, tw1044, tw1045, tw1046⟩
theorem tw1054 : Cond.code ⟨"RiverIfs", "crossing", "(I)I"⟩ prog_1_method_17_code 3 (some .int) ∈ lw_good := lw_t (i := 1054) (by decide +kernel) (by decide +kernel)
theorem cmX11_crossing (own : String) (idx : Nat) : CM own idx mX11_crossing 1 := ⟨⟨by decide +kernel, rfl, by decide⟩, ⟨tw1054, tw1⟩, by decide +kernel, by decide +kernel, by decide +kernel⟩
theorem tw1052 : Cond.instanceMethod ⟨"RiverIfs", "crossing", "(I)I"⟩ ∈ lw_good := lw_t (i := 1052) (by decide +kernel) (by decide +kernel)
theorem tw1053 : Cond.selects "RiverIfs" ⟨"RiverIfs", "crossing", "(I)I"⟩ ⟨"RiverIfs", "crossing", "(I)I"⟩ ∈ lw_good := lw_t (i := 1053) (by decide +kernel) (by decide +kernel)
theorem tw1051 : Cond.methodLink "RiverIfsLaw" 41 ⟨"RiverIfs", "crossing", "(I)I"⟩ ∈ lw_good := lw_t (i := 1051) (by decide +kernel) (by decide +kernel)
theorem cL_41 : CV RL 41 mX11_crossing 1 11 := ⟨cmX11_crossing _ _, _, _, _, rfl, tw1051, tw1052, tw1053⟩
theorem tw1061 : Cond.code ⟨"RiverIfs", "then", "(III)I"⟩ prog_1_method_18_code 5 (some .int) ∈ lw_good := lw_t (i := 1061) (by decide +kernel) (by decide +kernel)
theorem cmX11_then (own : String) (idx : Nat) : CM own idx mX11_then 3 := ⟨⟨by decide +kernel, rfl, by decide⟩, ⟨tw1061, tw1⟩, by decide +kernel, by decide +kernel, by decide +kernel⟩
theorem tw1059 : Cond.instanceMethod ⟨"RiverIfs", "then", "(III)I"⟩ ∈ lw_good := lw_t (i := 1059) (by decide +kernel) (by decide +kernel)
theorem tw1060 : Cond.selects "RiverIfs" ⟨"RiverIfs", "then", "(III)I"⟩ ⟨"RiverIfs", "then", "(III)I"⟩ ∈ lw_good := lw_t (i := 1060) (by decide +kernel) (by decide +kernel)
theorem tw1058 : Cond.methodLink "RiverIfsLaw" 44 ⟨"RiverIfs", "then", "(III)I"⟩ ∈ lw_good := lw_t (i := 1058) (by decide +kernel) (by decide +kernel)
theorem cL_44 : CV RL 44 mX11_then 3 11 := ⟨cmX11_then _ _, _, _, _, rfl, tw1058, tw1059, tw1060⟩
theorem tw1072 : Cond.code ⟨"RiverIfs", "first", "(I)I"⟩ prog_1_method_19_code 3 (some .int) ∈ lw_good := lw_t (i := 1072) (by decide +kernel) (by decide +kernel)
theorem cmX11_first (own : String) (idx : Nat) : CM own idx mX11_first 1 := ⟨⟨by decide +kernel, rfl, by decide⟩, ⟨tw1072, tw1⟩, by decide +kernel, by decide +kernel, by decide +kernel⟩
theorem tw1070 : Cond.instanceMethod ⟨"RiverIfs", "first", "(I)I"⟩ ∈ lw_good := lw_t (i := 1070) (by decide +kernel) (by decide +kernel)
theorem tw1071 : Cond.selects "RiverIfs" ⟨"RiverIfs", "first", "(I)I"⟩ ⟨"RiverIfs", "first", "(I)I"⟩ ∈ lw_good := lw_t (i := 1071) (by decide +kernel) (by decide +kernel)
theorem tw1069 : Cond.methodLink "RiverIfsLaw" 48 ⟨"RiverIfs", "first", "(I)I"⟩ ∈ lw_good := lw_t (i := 1069) (by decide +kernel) (by decide +kernel)
theorem cL_48 : CV RL 48 mX11_first 1 11 := ⟨cmX11_first _ _, _, _, _, rfl, tw1069, tw1070, tw1071⟩
theorem tw1079 : Cond.code ⟨"RiverIfs", "waiting", "(II)I"⟩ prog_1_method_20_code 5 (some .int) ∈ lw_good := lw_t (i := 1079) (by decide +kernel) (by decide +kernel)
theorem cmX11_waiting (own : String) (idx : Nat) : CM own idx mX11_waiting 2 := ⟨⟨by decide +kernel, rfl, by decide⟩, ⟨tw1079, tw1⟩, by decide +kernel, by decide +kernel, by decide +kernel⟩
theorem tw1077 : Cond.instanceMethod ⟨"RiverIfs", "waiting", "(II)I"⟩ ∈ lw_good := lw_t (i := 1077) (by decide +kernel) (by decide +kernel)
theorem tw1078 : Cond.selects "RiverIfs" ⟨"RiverIfs", "waiting", "(II)I"⟩ ⟨"RiverIfs", "waiting", "(II)I"⟩ ∈ lw_good := lw_t (i := 1078) (by decide +kernel) (by decide +kernel)
theorem tw1076 : Cond.methodLink "RiverIfsLaw" 51 ⟨"RiverIfs", "waiting", "(II)I"⟩ ∈ lw_good := lw_t (i := 1076) (by decide +kernel) (by decide +kernel)
theorem cL_51 : CV RL 51 mX11_waiting 2 11 := ⟨cmX11_waiting _ _, _, _, _, rfl, tw1076, tw1077, tw1078⟩
theorem tw1090 : Cond.code ⟨"RiverIfs", "toBear", "(I)I"⟩ prog_1_method_21_code 3 (some .int) ∈ lw_good := lw_t (i := 1090) (by decide +kernel) (by decide +kernel)
theorem cmX11_toBear (own : String) (idx : Nat) : CM own idx mX11_toBear 1 := ⟨⟨by decide +kernel, rfl, by decide⟩, ⟨tw1090, tw1⟩, by decide +kernel, by decide +kernel, by decide +kernel⟩
theorem tw1088 : Cond.instanceMethod ⟨"RiverIfs", "toBear", "(I)I"⟩ ∈ lw_good := lw_t (i := 1088) (by decide +kernel) (by decide +kernel)
theorem tw1089 : Cond.selects "RiverIfs" ⟨"RiverIfs", "toBear", "(I)I"⟩ ⟨"RiverIfs", "toBear", "(I)I"⟩ ∈ lw_good := lw_t (i := 1089) (by decide +kernel) (by decide +kernel)
theorem tw1087 : Cond.methodLink "RiverIfsLaw" 54 ⟨"RiverIfs", "toBear", "(I)I"⟩ ∈ lw_good := lw_t (i := 1087) (by decide +kernel) (by decide +kernel)
theorem cL_54 : CV RL 54 mX11_toBear 1 11 := ⟨cmX11_toBear _ _, _, _, _, rfl, tw1087, tw1088, tw1089⟩
theorem tw1101 : Cond.code ⟨"RiverIfs", "comes", "(I)I"⟩ prog_1_method_25_code 2 (some .int) ∈ lw_good := lw_t (i := 1101) (by decide +kernel) (by decide +kernel)
theorem cmX11_comes (own : String) (idx : Nat) : CM own idx mX11_comes 1 := ⟨⟨by decide +kernel, rfl, by decide⟩, ⟨tw1101, tw1⟩, by decide +kernel, by decide +kernel, by decide +kernel⟩
theorem tw1099 : Cond.instanceMethod ⟨"RiverIfs", "comes", "(I)I"⟩ ∈ lw_good := lw_t (i := 1099) (by decide +kernel) (by decide +kernel)
theorem tw1100 : Cond.selects "RiverIfs" ⟨"RiverIfs", "comes", "(I)I"⟩ ⟨"RiverIfs", "comes", "(I)I"⟩ ∈ lw_good := lw_t (i := 1100) (by decide +kernel) (by decide +kernel)
theorem tw1098 : Cond.methodLink "RiverIfsLaw" 57 ⟨"RiverIfs", "comes", "(I)I"⟩ ∈ lw_good := lw_t (i := 1098) (by decide +kernel) (by decide +kernel)
theorem cL_57 : CV RL 57 mX11_comes 1 11 := ⟨cmX11_comes _ _, _, _, _, rfl, tw1098, tw1099, tw1100⟩
theorem tw1109 : Cond.code ⟨"RiverIfs", "why", "(II)I"⟩ prog_1_method_26_code 3 (some .int) ∈ lw_good := lw_t (i := 1109) (by decide +kernel) (by decide +kernel)
theorem cmX11_why (own : String) (idx : Nat) : CM own idx mX11_why 2 := ⟨⟨by decide +kernel, rfl, by decide⟩, ⟨tw1109, tw1⟩, by decide +kernel, by decide +kernel, by decide +kernel⟩
theorem tw1107 : Cond.instanceMethod ⟨"RiverIfs", "why", "(II)I"⟩ ∈ lw_good := lw_t (i := 1107) (by decide +kernel) (by decide +kernel)
theorem tw1108 : Cond.selects "RiverIfs" ⟨"RiverIfs", "why", "(II)I"⟩ ⟨"RiverIfs", "why", "(II)I"⟩ ∈ lw_good := lw_t (i := 1108) (by decide +kernel) (by decide +kernel)
theorem tw1106 : Cond.methodLink "RiverIfsLaw" 60 ⟨"RiverIfs", "why", "(II)I"⟩ ∈ lw_good := lw_t (i := 1106) (by decide +kernel) (by decide +kernel)
theorem cL_60 : CV RL 60 mX11_why 2 11 := ⟨cmX11_why _ _, _, _, _, rfl, tw1106, tw1107, tw1108⟩
theorem tw1128 : Cond.code ⟨"RiverIfs", "needed", "(II)I"⟩ prog_1_method_27_code 6 (some .int) ∈ lw_good := lw_t (i := 1128) (by decide +kernel) (by decide +kernel)
theorem cmX11_needed (own : String) (idx : Nat) : CM own idx mX11_needed 2 := ⟨⟨by decide +kernel, rfl, by decide⟩, ⟨tw1128, tw1⟩, by decide +kernel, by decide +kernel, by decide +kernel⟩
theorem tw1126 : Cond.instanceMethod ⟨"RiverIfs", "needed", "(II)I"⟩ ∈ lw_good := lw_t (i := 1126) (by decide +kernel) (by decide +kernel)
theorem tw1127 : Cond.selects "RiverIfs" ⟨"RiverIfs", "needed", "(II)I"⟩ ⟨"RiverIfs", "needed", "(II)I"⟩ ∈ lw_good := lw_t (i := 1127) (by decide +kernel) (by decide +kernel)
theorem tw1125 : Cond.methodLink "RiverIfsLaw" 63 ⟨"RiverIfs", "needed", "(II)I"⟩ ∈ lw_good := lw_t (i := 1125) (by decide +kernel) (by decide +kernel)
theorem cL_63 : CV RL 63 mX11_needed 2 11 := ⟨cmX11_needed _ _, _, _, _, rfl, tw1125, tw1126, tw1127⟩
theorem tw1135 : Cond.code ⟨"RiverIfs", "fewest", "(II)I"⟩ prog_1_method_28_code 6 (some .int) ∈ lw_good := lw_t (i := 1135) (by decide +kernel) (by decide +kernel)
theorem cmX11_fewest (own : String) (idx : Nat) : CM own idx mX11_fewest 2 := ⟨⟨by decide +kernel, rfl, by decide⟩, ⟨tw1135, tw1⟩, by decide +kernel, by decide +kernel, by decide +kernel⟩
theorem tw1133 : Cond.instanceMethod ⟨"RiverIfs", "fewest", "(II)I"⟩ ∈ lw_good := lw_t (i := 1133) (by decide +kernel) (by decide +kernel)
theorem tw1134 : Cond.selects "RiverIfs" ⟨"RiverIfs", "fewest", "(II)I"⟩ ⟨"RiverIfs", "fewest", "(II)I"⟩ ∈ lw_good := lw_t (i := 1134) (by decide +kernel) (by decide +kernel)
theorem tw1132 : Cond.methodLink "RiverIfsLaw" 66 ⟨"RiverIfs", "fewest", "(II)I"⟩ ∈ lw_good := lw_t (i := 1132) (by decide +kernel) (by decide +kernel)
theorem cL_66 : CV RL 66 mX11_fewest 2 11 := ⟨cmX11_fewest _ _, _, _, _, rfl, tw1132, tw1133, tw1134⟩
theorem tw1143 : Cond.code ⟨"RiverIfs", "leads", "(II)Z"⟩ prog_1_method_29_code 3 (some .boolean) ∈ lw_good := lw_t (i := 1143) (by decide +kernel) (by decide +kernel)
theorem cmX11_leads (own : String) (idx : Nat) : CM own idx mX11_leads 2 := ⟨⟨by decide +kernel, rfl, by decide⟩, ⟨tw1143, tw1⟩, by decide +kernel, by decide +kernel, by decide +kernel⟩
theorem tw1141 : Cond.instanceMethod ⟨"RiverIfs", "leads", "(II)Z"⟩ ∈ lw_good := lw_t (i := 1141) (by decide +kernel) (by decide +kernel)
theorem tw1142 : Cond.selects "RiverIfs" ⟨"RiverIfs", "leads", "(II)Z"⟩ ⟨"RiverIfs", "leads", "(II)Z"⟩ ∈ lw_good := lw_t (i := 1142) (by decide +kernel) (by decide +kernel)
theorem tw1140 : Cond.methodLink "RiverIfsLaw" 69 ⟨"RiverIfs", "leads", "(II)Z"⟩ ∈ lw_good := lw_t (i := 1140) (by decide +kernel) (by decide +kernel)
theorem cL_69 : CV RL 69 mX11_leads 2 11 := ⟨cmX11_leads _ _, _, _, _, rfl, tw1140, tw1141, tw1142⟩
theorem tw1151 : Cond.code ⟨"RiverIfs", "like", "(II)I"⟩ prog_1_method_34_code 7 (some .int) ∈ lw_good := lw_t (i := 1151) (by decide +kernel) (by decide +kernel)
theorem cmX11_like (own : String) (idx : Nat) : CM own idx mX11_like 2 := ⟨⟨by decide +kernel, rfl, by decide⟩, ⟨tw1151, tw1⟩, by decide +kernel, by decide +kernel, by decide +kernel⟩
theorem tw1149 : Cond.instanceMethod ⟨"RiverIfs", "like", "(II)I"⟩ ∈ lw_good := lw_t (i := 1149) (by decide +kernel) (by decide +kernel)
theorem tw1150 : Cond.selects "RiverIfs" ⟨"RiverIfs", "like", "(II)I"⟩ ⟨"RiverIfs", "like", "(II)I"⟩ ∈ lw_good := lw_t (i := 1150) (by decide +kernel) (by decide +kernel)
theorem tw1148 : Cond.methodLink "RiverIfsLaw" 73 ⟨"RiverIfs", "like", "(II)I"⟩ ∈ lw_good := lw_t (i := 1148) (by decide +kernel) (by decide +kernel)
theorem cL_73 : CV RL 73 mX11_like 2 11 := ⟨cmX11_like _ _, _, _, _, rfl, tw1148, tw1149, tw1150⟩
theorem tw1158 : Cond.code ⟨"RiverIfs", "toSend", "(I)I"⟩ prog_1_method_35_code 7 (some .int) ∈ lw_good := lw_t (i := 1158) (by decide +kernel) (by decide +kernel)
theorem cmX11_toSend (own : String) (idx : Nat) : CM own idx mX11_toSend 1 := ⟨⟨by decide +kernel, rfl, by decide⟩, ⟨tw1158, tw1⟩, by decide +kernel, by decide +kernel, by decide +kernel⟩
theorem tw1156 : Cond.instanceMethod ⟨"RiverIfs", "toSend", "(I)I"⟩ ∈ lw_good := lw_t (i := 1156) (by decide +kernel) (by decide +kernel)
theorem tw1157 : Cond.selects "RiverIfs" ⟨"RiverIfs", "toSend", "(I)I"⟩ ⟨"RiverIfs", "toSend", "(I)I"⟩ ∈ lw_good := lw_t (i := 1157) (by decide +kernel) (by decide +kernel)
theorem tw1155 : Cond.methodLink "RiverIfsLaw" 76 ⟨"RiverIfs", "toSend", "(I)I"⟩ ∈ lw_good := lw_t (i := 1155) (by decide +kernel) (by decide +kernel)
theorem cL_76 : CV RL 76 mX11_toSend 1 11 := ⟨cmX11_toSend _ _, _, _, _, rfl, tw1155, tw1156, tw1157⟩
theorem tw1169 : Cond.code ⟨"RiverIfs", "happiest", "(I)I"⟩ prog_1_method_36_code 6 (some .int) ∈ lw_good := lw_t (i := 1169) (by decide +kernel) (by decide +kernel)
theorem cmX11_happiest (own : String) (idx : Nat) : CM own idx mX11_happiest 1 := ⟨⟨by decide +kernel, rfl, by decide⟩, ⟨tw1169, tw1⟩, by decide +kernel, by decide +kernel, by decide +kernel⟩
theorem tw1167 : Cond.instanceMethod ⟨"RiverIfs", "happiest", "(I)I"⟩ ∈ lw_good := lw_t (i := 1167) (by decide +kernel) (by decide +kernel)
theorem tw1168 : Cond.selects "RiverIfs" ⟨"RiverIfs", "happiest", "(I)I"⟩ ⟨"RiverIfs", "happiest", "(I)I"⟩ ∈ lw_good := lw_t (i := 1168) (by decide +kernel) (by decide +kernel)
theorem tw1166 : Cond.methodLink "RiverIfsLaw" 79 ⟨"RiverIfs", "happiest", "(I)I"⟩ ∈ lw_good := lw_t (i := 1166) (by decide +kernel) (by decide +kernel)
theorem cL_79 : CV RL 79 mX11_happiest 1 11 := ⟨cmX11_happiest _ _, _, _, _, rfl, tw1166, tw1167, tw1168⟩
theorem tw1181 : Cond.code ⟨"RiverIfs", "critical", "(I)I"⟩ prog_1_method_38_code 6 (some .int) ∈ lw_good := lw_t (i := 1181) (by decide +kernel) (by decide +kernel)
theorem cmX11_critical (own : String) (idx : Nat) : CM own idx mX11_critical 1 := ⟨⟨by decide +kernel, rfl, by decide⟩, ⟨tw1181, tw1⟩, by decide +kernel, by decide +kernel, by decide +kernel⟩
theorem tw1179 : Cond.instanceMethod ⟨"RiverIfs", "critical", "(I)I"⟩ ∈ lw_good := lw_t (i := 1179) (by decide +kernel) (by decide +kernel)
theorem tw1180 : Cond.selects "RiverIfs" ⟨"RiverIfs", "critical", "(I)I"⟩ ⟨"RiverIfs", "critical", "(I)I"⟩ ∈ lw_good := lw_t (i := 1180) (by decide +kernel) (by decide +kernel)
theorem tw1178 : Cond.methodLink "RiverIfsLaw" 82 ⟨"RiverIfs", "critical", "(I)I"⟩ ∈ lw_good := lw_t (i := 1178) (by decide +kernel) (by decide +kernel)
theorem cL_82 : CV RL 82 mX11_critical 1 11 := ⟨cmX11_critical _ _, _, _, _, rfl, tw1178, tw1179, tw1180⟩
theorem tw1188 : Cond.code ⟨"RiverIfs", "bestMissed", "(I)I"⟩ prog_1_method_39_code 4 (some .int) ∈ lw_good := lw_t (i := 1188) (by decide +kernel) (by decide +kernel)
theorem cmX11_bestMissed (own : String) (idx : Nat) : CM own idx mX11_bestMissed 1 := ⟨⟨by decide +kernel, rfl, by decide⟩, ⟨tw1188, tw1⟩, by decide +kernel, by decide +kernel, by decide +kernel⟩
theorem tw1186 : Cond.instanceMethod ⟨"RiverIfs", "bestMissed", "(I)I"⟩ ∈ lw_good := lw_t (i := 1186) (by decide +kernel) (by decide +kernel)
theorem tw1187 : Cond.selects "RiverIfs" ⟨"RiverIfs", "bestMissed", "(I)I"⟩ ⟨"RiverIfs", "bestMissed", "(I)I"⟩ ∈ lw_good := lw_t (i := 1187) (by decide +kernel) (by decide +kernel)
theorem tw1185 : Cond.methodLink "RiverIfsLaw" 85 ⟨"RiverIfs", "bestMissed", "(I)I"⟩ ∈ lw_good := lw_t (i := 1185) (by decide +kernel) (by decide +kernel)
theorem cL_85 : CV RL 85 mX11_bestMissed 1 11 := ⟨cmX11_bestMissed _ _, _, _, _, rfl, tw1185, tw1186, tw1187⟩
theorem tw1199 : Cond.code ⟨"RiverIfs", "common", "(II)I"⟩ prog_1_method_40_code 3 (some .int) ∈ lw_good := lw_t (i := 1199) (by decide +kernel) (by decide +kernel)
theorem cmX11_common (own : String) (idx : Nat) : CM own idx mX11_common 2 := ⟨⟨by decide +kernel, rfl, by decide⟩, ⟨tw1199, tw1⟩, by decide +kernel, by decide +kernel, by decide +kernel⟩
theorem tw1197 : Cond.instanceMethod ⟨"RiverIfs", "common", "(II)I"⟩ ∈ lw_good := lw_t (i := 1197) (by decide +kernel) (by decide +kernel)
theorem tw1198 : Cond.selects "RiverIfs" ⟨"RiverIfs", "common", "(II)I"⟩ ⟨"RiverIfs", "common", "(II)I"⟩ ∈ lw_good := lw_t (i := 1198) (by decide +kernel) (by decide +kernel)
theorem tw1196 : Cond.methodLink "RiverIfsLaw" 88 ⟨"RiverIfs", "common", "(II)I"⟩ ∈ lw_good := lw_t (i := 1196) (by decide +kernel) (by decide +kernel)
theorem cL_88 : CV RL 88 mX11_common 2 11 := ⟨cmX11_common _ _, _, _, _, rfl, tw1196, tw1197, tw1198⟩
theorem tw1206 : Cond.code ⟨"RiverIfs", "apart", "(II)I"⟩ prog_1_method_41_code 3 (some .int) ∈ lw_good := lw_t (i := 1206) (by decide +kernel) (by decide +kernel)
theorem cmX11_apart (own : String) (idx : Nat) : CM own idx mX11_apart 2 := ⟨⟨by decide +kernel, rfl, by decide⟩, ⟨tw1206, tw1⟩, by decide +kernel, by decide +kernel, by decide +kernel⟩
theorem tw1204 : Cond.instanceMethod ⟨"RiverIfs", "apart", "(II)I"⟩ ∈ lw_good := lw_t (i := 1204) (by decide +kernel) (by decide +kernel)
theorem tw1205 : Cond.selects "RiverIfs" ⟨"RiverIfs", "apart", "(II)I"⟩ ⟨"RiverIfs", "apart", "(II)I"⟩ ∈ lw_good := lw_t (i := 1205) (by decide +kernel) (by decide +kernel)
theorem tw1203 : Cond.methodLink "RiverIfsLaw" 91 ⟨"RiverIfs", "apart", "(II)I"⟩ ∈ lw_good := lw_t (i := 1203) (by decide +kernel) (by decide +kernel)
theorem cL_91 : CV RL 91 mX11_apart 2 11 := ⟨cmX11_apart _ _, _, _, _, rfl, tw1203, tw1204, tw1205⟩
theorem tw1213 : Cond.code ⟨"RiverIfs", "sets", "(I)I"⟩ prog_1_method_32_code 2 (some .int) ∈ lw_good := lw_t (i := 1213) (by decide +kernel) (by decide +kernel)
theorem cmX11_sets (own : String) (idx : Nat) : CM own idx mX11_sets 1 := ⟨⟨by decide +kernel, rfl, by decide⟩, ⟨tw1213, tw1⟩, by decide +kernel, by decide +kernel, by decide +kernel⟩
theorem tw1211 : Cond.instanceMethod ⟨"RiverIfs", "sets", "(I)I"⟩ ∈ lw_good := lw_t (i := 1211) (by decide +kernel) (by decide +kernel)
theorem tw1212 : Cond.selects "RiverIfs" ⟨"RiverIfs", "sets", "(I)I"⟩ ⟨"RiverIfs", "sets", "(I)I"⟩ ∈ lw_good := lw_t (i := 1212) (by decide +kernel) (by decide +kernel)
theorem tw1210 : Cond.methodLink "RiverIfsLaw" 94 ⟨"RiverIfs", "sets", "(I)I"⟩ ∈ lw_good := lw_t (i := 1210) (by decide +kernel) (by decide +kernel)
theorem cL_94 : CV RL 94 mX11_sets 1 11 := ⟨cmX11_sets _ _, _, _, _, rfl, tw1210, tw1211, tw1212⟩
theorem tw1224 : Cond.code ⟨"RiverIfs", "toDeny", "(II)I"⟩ prog_1_method_33_code 7 (some .int) ∈ lw_good := lw_t (i := 1224) (by decide +kernel) (by decide +kernel)
theorem cmX11_toDeny (own : String) (idx : Nat) : CM own idx mX11_toDeny 2 := ⟨⟨by decide +kernel, rfl, by decide⟩, ⟨tw1224, tw1⟩, by decide +kernel, by decide +kernel, by decide +kernel⟩
theorem tw1222 : Cond.instanceMethod ⟨"RiverIfs", "toDeny", "(II)I"⟩ ∈ lw_good := lw_t (i := 1222) (by decide +kernel) (by decide +kernel)
theorem tw1223 : Cond.selects "RiverIfs" ⟨"RiverIfs", "toDeny", "(II)I"⟩ ⟨"RiverIfs", "toDeny", "(II)I"⟩ ∈ lw_good := lw_t (i := 1223) (by decide +kernel) (by decide +kernel)
theorem tw1221 : Cond.methodLink "RiverIfsLaw" 97 ⟨"RiverIfs", "toDeny", "(II)I"⟩ ∈ lw_good := lw_t (i := 1221) (by decide +kernel) (by decide +kernel)
theorem cL_97 : CV RL 97 mX11_toDeny 2 11 := ⟨cmX11_toDeny _ _, _, _, _, rfl, tw1221, tw1222, tw1223⟩
theorem tw1231 : Cond.code ⟨"RiverIfs", "sources", "(I)I"⟩ prog_1_method_30_code 4 (some .int) ∈ lw_good := lw_t (i := 1231) (by decide +kernel) (by decide +kernel)
theorem cmX11_sources (own : String) (idx : Nat) : CM own idx mX11_sources 1 := ⟨⟨by decide +kernel, rfl, by decide⟩, ⟨tw1231, tw1⟩, by decide +kernel, by decide +kernel, by decide +kernel⟩
theorem tw1229 : Cond.instanceMethod ⟨"RiverIfs", "sources", "(I)I"⟩ ∈ lw_good := lw_t (i := 1229) (by decide +kernel) (by decide +kernel)
theorem tw1230 : Cond.selects "RiverIfs" ⟨"RiverIfs", "sources", "(I)I"⟩ ⟨"RiverIfs", "sources", "(I)I"⟩ ∈ lw_good := lw_t (i := 1230) (by decide +kernel) (by decide +kernel)
theorem tw1228 : Cond.methodLink "RiverIfsLaw" 100 ⟨"RiverIfs", "sources", "(I)I"⟩ ∈ lw_good := lw_t (i := 1228) (by decide +kernel) (by decide +kernel)
theorem cL_100 : CV RL 100 mX11_sources 1 11 := ⟨cmX11_sources _ _, _, _, _, rfl, tw1228, tw1229, tw1230⟩
theorem tw1238 : Cond.code ⟨"RiverIfs", "times", "(II)I"⟩ prog_1_method_23_code 5 (some .int) ∈ lw_good := lw_t (i := 1238) (by decide +kernel) (by decide +kernel)
theorem cmX11_times (own : String) (idx : Nat) : CM own idx mX11_times 2 := ⟨⟨by decide +kernel, rfl, by decide⟩, ⟨tw1238, tw1⟩, by decide +kernel, by decide +kernel, by decide +kernel⟩
theorem tw1236 : Cond.instanceMethod ⟨"RiverIfs", "times", "(II)I"⟩ ∈ lw_good := lw_t (i := 1236) (by decide +kernel) (by decide +kernel)
theorem tw1237 : Cond.selects "RiverIfs" ⟨"RiverIfs", "times", "(II)I"⟩ ⟨"RiverIfs", "times", "(II)I"⟩ ∈ lw_good := lw_t (i := 1237) (by decide +kernel) (by decide +kernel)
theorem tw1235 : Cond.methodLink "RiverIfsLaw" 103 ⟨"RiverIfs", "times", "(II)I"⟩ ∈ lw_good := lw_t (i := 1235) (by decide +kernel) (by decide +kernel)
theorem cL_103 : CV RL 103 mX11_times 2 11 := ⟨cmX11_times _ _, _, _, _, rfl, tw1235, tw1236, tw1237⟩
theorem tw1245 : Cond.code ⟨"RiverIfs", "fullest", "(II)I"⟩ prog_1_method_24_code 7 (some .int) ∈ lw_good := lw_t (i := 1245) (by decide +kernel) (by decide +kernel)
theorem cmX11_fullest (own : String) (idx : Nat) : CM own idx mX11_fullest 2 := ⟨⟨by decide +kernel, rfl, by decide⟩, ⟨tw1245, tw1⟩, by decide +kernel, by decide +kernel, by decide +kernel⟩
theorem tw1243 : Cond.instanceMethod ⟨"RiverIfs", "fullest", "(II)I"⟩ ∈ lw_good := lw_t (i := 1243) (by decide +kernel) (by decide +kernel)
theorem tw1244 : Cond.selects "RiverIfs" ⟨"RiverIfs", "fullest", "(II)I"⟩ ⟨"RiverIfs", "fullest", "(II)I"⟩ ∈ lw_good := lw_t (i := 1244) (by decide +kernel) (by decide +kernel)
theorem tw1242 : Cond.methodLink "RiverIfsLaw" 106 ⟨"RiverIfs", "fullest", "(II)I"⟩ ∈ lw_good := lw_t (i := 1242) (by decide +kernel) (by decide +kernel)
theorem cL_106 : CV RL 106 mX11_fullest 2 11 := ⟨cmX11_fullest _ _, _, _, _, rfl, tw1242, tw1243, tw1244⟩
theorem tw1252 : Cond.code ⟨"RiverIfs", "see", "(IIZ)I"⟩ prog_1_method_43_code 4 (some .int) ∈ lw_good := lw_t (i := 1252) (by decide +kernel) (by decide +kernel)
theorem cmX11_see (own : String) (idx : Nat) : CM own idx mX11_see 3 := ⟨⟨by decide +kernel, rfl, by decide⟩, ⟨tw1252, tw1⟩, by decide +kernel, by decide +kernel, by decide +kernel⟩
theorem tw1250 : Cond.instanceMethod ⟨"RiverIfs", "see", "(IIZ)I"⟩ ∈ lw_good := lw_t (i := 1250) (by decide +kernel) (by decide +kernel)
theorem tw1251 : Cond.selects "RiverIfs" ⟨"RiverIfs", "see", "(IIZ)I"⟩ ⟨"RiverIfs", "see", "(IIZ)I"⟩ ∈ lw_good := lw_t (i := 1251) (by decide +kernel) (by decide +kernel)
theorem tw1249 : Cond.methodLink "RiverIfsLaw" 109 ⟨"RiverIfs", "see", "(IIZ)I"⟩ ∈ lw_good := lw_t (i := 1249) (by decide +kernel) (by decide +kernel)
theorem cL_109 : CV RL 109 mX11_see 3 11 := ⟨cmX11_see _ _, _, _, _, rfl, tw1249, tw1250, tw1251⟩
theorem tw1263 : Cond.code ⟨"RiverIfs", "tells", "(I)I"⟩ prog_1_method_44_code 2 (some .int) ∈ lw_good := lw_t (i := 1263) (by decide +kernel) (by decide +kernel)
theorem cmX11_tells (own : String) (idx : Nat) : CM own idx mX11_tells 1 := ⟨⟨by decide +kernel, rfl, by decide⟩, ⟨tw1263, tw1⟩, by decide +kernel, by decide +kernel, by decide +kernel⟩
theorem tw1261 : Cond.instanceMethod ⟨"RiverIfs", "tells", "(I)I"⟩ ∈ lw_good := lw_t (i := 1261) (by decide +kernel) (by decide +kernel)
theorem tw1262 : Cond.selects "RiverIfs" ⟨"RiverIfs", "tells", "(I)I"⟩ ⟨"RiverIfs", "tells", "(I)I"⟩ ∈ lw_good := lw_t (i := 1262) (by decide +kernel) (by decide +kernel)
theorem tw1260 : Cond.methodLink "RiverIfsLaw" 112 ⟨"RiverIfs", "tells", "(I)I"⟩ ∈ lw_good := lw_t (i := 1260) (by decide +kernel) (by decide +kernel)
theorem cL_112 : CV RL 112 mX11_tells 1 11 := ⟨cmX11_tells _ _, _, _, _, rfl, tw1260, tw1261, tw1262⟩
theorem tw1279 : Cond.code ⟨"RiverIfs", "look", "(II)I"⟩ prog_1_method_45_code 9 (some .int) ∈ lw_good := lw_t (i := 1279) (by decide +kernel) (by decide +kernel)
theorem cmX11_look (own : String) (idx : Nat) : CM own idx mX11_look 2 := ⟨⟨by decide +kernel, rfl, by decide⟩, ⟨tw1279, tw1⟩, by decide +kernel, by decide +kernel, by decide +kernel⟩
theorem tw1277 : Cond.instanceMethod ⟨"RiverIfs", "look", "(II)I"⟩ ∈ lw_good := lw_t (i := 1277) (by decide +kernel) (by decide +kernel)
theorem tw1278 : Cond.selects "RiverIfs" ⟨"RiverIfs", "look", "(II)I"⟩ ⟨"RiverIfs", "look", "(II)I"⟩ ∈ lw_good := lw_t (i := 1278) (by decide +kernel) (by decide +kernel)
theorem tw1276 : Cond.methodLink "RiverIfsLaw" 115 ⟨"RiverIfs", "look", "(II)I"⟩ ∈ lw_good := lw_t (i := 1276) (by decide +kernel) (by decide +kernel)
theorem cL_115 : CV RL 115 mX11_look 2 11 := ⟨cmX11_look _ _, _, _, _, rfl, tw1276, tw1277, tw1278⟩
theorem tw1291 : Cond.code ⟨"RiverIfs", "game", "(III)I"⟩ prog_1_method_50_code 10 (some .int) ∈ lw_good := lw_t (i := 1291) (by decide +kernel) (by decide +kernel)
theorem cmX11_game (own : String) (idx : Nat) : CM own idx mX11_game 3 := ⟨⟨by decide +kernel, rfl, by decide⟩, ⟨tw1291, tw1⟩, by decide +kernel, by decide +kernel, by decide +kernel⟩
theorem tw1289 : Cond.instanceMethod ⟨"RiverIfs", "game", "(III)I"⟩ ∈ lw_good := lw_t (i := 1289) (by decide +kernel) (by decide +kernel)
theorem tw1290 : Cond.selects "RiverIfs" ⟨"RiverIfs", "game", "(III)I"⟩ ⟨"RiverIfs", "game", "(III)I"⟩ ∈ lw_good := lw_t (i := 1290) (by decide +kernel) (by decide +kernel)
theorem tw1288 : Cond.methodLink "RiverIfsLaw" 118 ⟨"RiverIfs", "game", "(III)I"⟩ ∈ lw_good := lw_t (i := 1288) (by decide +kernel) (by decide +kernel)
theorem cL_118 : CV RL 118 mX11_game 3 11 := ⟨cmX11_game _ _, _, _, _, rfl, tw1288, tw1289, tw1290⟩
theorem tw1306 : Cond.code ⟨"RiverIfs", "years", "(III)I"⟩ prog_1_method_53_code 6 (some .int) ∈ lw_good := lw_t (i := 1306) (by decide +kernel) (by decide +kernel)
theorem cmX11_years (own : String) (idx : Nat) : CM own idx mX11_years 3 := ⟨⟨by decide +kernel, rfl, by decide⟩, ⟨tw1306, tw1⟩, by decide +kernel, by decide +kernel, by decide +kernel⟩
theorem tw1304 : Cond.instanceMethod ⟨"RiverIfs", "years", "(III)I"⟩ ∈ lw_good := lw_t (i := 1304) (by decide +kernel) (by decide +kernel)
theorem tw1305 : Cond.selects "RiverIfs" ⟨"RiverIfs", "years", "(III)I"⟩ ⟨"RiverIfs", "years", "(III)I"⟩ ∈ lw_good := lw_t (i := 1305) (by decide +kernel) (by decide +kernel)
theorem tw1303 : Cond.methodLink "RiverIfsLaw" 121 ⟨"RiverIfs", "years", "(III)I"⟩ ∈ lw_good := lw_t (i := 1303) (by decide +kernel) (by decide +kernel)
theorem cL_121 : CV RL 121 mX11_years 3 11 := ⟨cmX11_years _ _, _, _, _, rfl, tw1303, tw1304, tw1305⟩
theorem tw28 : Cond.classLink "RiverIfsLaw" 8 "RiverIfs" ∈ lw_good := lw_t (i := 28) (by decide +kernel) (by decide +kernel)
theorem tw29 : Cond.instantiable "RiverIfs" 12 ∈ lw_good := lw_t (i := 29) (by decide +kernel) (by decide +kernel)
theorem nL_8 : NW RL 8 11 12 (fun k => defaultValue (tyX11 k)) := ⟨_, _, tyX11, rfl, inX11, tyX11_ok, fun _ _ => rfl, tw28, tw29, tw1⟩
theorem tw32 : Cond.code ⟨"RiverIfs", "<init>", "()V"⟩ prog_1_method_1_code 2 (none) ∈ lw_good := lw_t (i := 32) (by decide +kernel) (by decide +kernel)
theorem cmX11_init (own : String) (idx : Nat) : CM own idx mX11_init 0 := ⟨⟨by decide +kernel, rfl, by decide⟩, ⟨tw32, tw1⟩, by decide +kernel, by decide +kernel, by decide +kernel⟩
theorem tw31 : Cond.instanceMethod ⟨"RiverIfs", "<init>", "()V"⟩ ∈ lw_good := lw_t (i := 31) (by decide +kernel) (by decide +kernel)
theorem tw30 : Cond.methodLink "RiverIfsLaw" 124 ⟨"RiverIfs", "<init>", "()V"⟩ ∈ lw_good := lw_t (i := 30) (by decide +kernel) (by decide +kernel)
theorem cL_124 : CI RL 124 mX11_init 0 := ⟨cmX11_init _ _, rfl, rfl, tw30, tw31⟩
theorem tw1324 : Cond.classLink "RiverIfsLaw" 125 "RiverIfsModel" ∈ lw_good := lw_t (i := 1324) (by decide +kernel) (by decide +kernel)
theorem tw1325 : Cond.instantiable "RiverIfsModel" 57 ∈ lw_good := lw_t (i := 1325) (by decide +kernel) (by decide +kernel)
theorem nL_125 : NW RL 125 12 57 (fun k => defaultValue (tyX12 k)) := ⟨_, _, tyX12, rfl, inX12, tyX12_ok, fun _ _ => rfl, tw1324, tw1325, tw13⟩
theorem tw1328 : Cond.code ⟨"RiverIfsModel", "<init>", "()V"⟩ prog_14_method_1_code 1 (none) ∈ lw_good := lw_t (i := 1328) (by decide +kernel) (by decide +kernel)
theorem cmX12_init (own : String) (idx : Nat) : CM own idx mX12_init 0 := ⟨⟨by decide +kernel, rfl, by decide⟩, ⟨tw1328, tw13⟩, by decide +kernel, by decide +kernel, by decide +kernel⟩
theorem tw1327 : Cond.instanceMethod ⟨"RiverIfsModel", "<init>", "()V"⟩ ∈ lw_good := lw_t (i := 1327) (by decide +kernel) (by decide +kernel)
theorem tw1326 : Cond.methodLink "RiverIfsLaw" 127 ⟨"RiverIfsModel", "<init>", "()V"⟩ ∈ lw_good := lw_t (i := 1326) (by decide +kernel) (by decide +kernel)
theorem cL_127 : CI RL 127 mX12_init 0 := ⟨cmX12_init _ _, rfl, rfl, tw1326, tw1327⟩
theorem tw401 : Cond.code ⟨"RiverIfs", "feed", "(IIIII)I"⟩ prog_1_method_2_code 7 (some .int) ∈ lw_good := lw_t (i := 401) (by decide +kernel) (by decide +kernel)
theorem cmX11_feed (own : String) (idx : Nat) : CM own idx mX11_feed 5 := ⟨⟨by decide +kernel, rfl, by decide⟩, ⟨tw401, tw1⟩, by decide +kernel, by decide +kernel, by decide +kernel⟩
theorem tw399 : Cond.instanceMethod ⟨"RiverIfs", "feed", "(IIIII)I"⟩ ∈ lw_good := lw_t (i := 399) (by decide +kernel) (by decide +kernel)
theorem tw400 : Cond.selects "RiverIfs" ⟨"RiverIfs", "feed", "(IIIII)I"⟩ ⟨"RiverIfs", "feed", "(IIIII)I"⟩ ∈ lw_good := lw_t (i := 400) (by decide +kernel) (by decide +kernel)
theorem tw398 : Cond.methodLink "RiverIfsLaw" 128 ⟨"RiverIfs", "feed", "(IIIII)I"⟩ ∈ lw_good := lw_t (i := 398) (by decide +kernel) (by decide +kernel)
theorem cL_128 : CV RL 128 mX11_feed 5 11 := ⟨cmX11_feed _ _, _, _, _, rfl, tw398, tw399, tw400⟩
theorem tw1521 : Cond.code ⟨"RiverIfsModel", "feed", "(IIIII)I"⟩ prog_14_method_12_code 8 (some .int) ∈ lw_good := lw_t (i := 1521) (by decide +kernel) (by decide +kernel)
theorem cmX12_feed (own : String) (idx : Nat) : CM own idx mX12_feed 5 := ⟨⟨by decide +kernel, rfl, by decide⟩, ⟨tw1521, tw13⟩, by decide +kernel, by decide +kernel, by decide +kernel⟩
theorem tw1519 : Cond.instanceMethod ⟨"RiverIfsModel", "feed", "(IIIII)I"⟩ ∈ lw_good := lw_t (i := 1519) (by decide +kernel) (by decide +kernel)
theorem tw1520 : Cond.selects "RiverIfsModel" ⟨"RiverIfsModel", "feed", "(IIIII)I"⟩ ⟨"RiverIfsModel", "feed", "(IIIII)I"⟩ ∈ lw_good := lw_t (i := 1520) (by decide +kernel) (by decide +kernel)
theorem tw1518 : Cond.methodLink "RiverIfsLaw" 132 ⟨"RiverIfsModel", "feed", "(IIIII)I"⟩ ∈ lw_good := lw_t (i := 1518) (by decide +kernel) (by decide +kernel)
theorem cL_132 : CV RL 132 mX12_feed 5 12 := ⟨cmX12_feed _ _, _, _, _, rfl, tw1518, tw1519, tw1520⟩
theorem tw581 : Cond.codeWith ⟨"RiverIfsLaw", "shore", "(LRiverIfs;I[J)I"⟩ method_3_code 4 (some .int) [(0, 9, 12, 13)] ∈ lw_good := lw_t (i := 581) (by decide +kernel) (by decide +kernel)
theorem tw0 : Cond.initialized "RiverIfsLaw" ∈ lw_good := lw_t (i := 0) (by decide +kernel) (by decide +kernel)
theorem tw579 : Cond.methodLink "RiverIfsLaw" 133 ⟨"RiverIfsLaw", "shore", "(LRiverIfs;I[J)I"⟩ ∈ lw_good := lw_t (i := 579) (by decide +kernel) (by decide +kernel)
theorem tw580 : Cond.static ⟨"RiverIfsLaw", "shore", "(LRiverIfs;I[J)I"⟩ ∈ lw_good := lw_t (i := 580) (by decide +kernel) (by decide +kernel)
theorem cL_133 : CSH RL 133 mL_shore 3 := ⟨⟨by decide +kernel, by decide⟩, ⟨tw581, tw0⟩, ⟨by decide +kernel, by decide +kernel, by decide +kernel⟩, tw579, tw580⟩
theorem tw1525 : Cond.code ⟨"RiverIfsModel", "shore", "(I)I"⟩ prog_14_method_37_code 3 (some .int) ∈ lw_good := lw_t (i := 1525) (by decide +kernel) (by decide +kernel)
theorem cmX12_shore (own : String) (idx : Nat) : CM own idx mX12_shore 1 := ⟨⟨by decide +kernel, rfl, by decide⟩, ⟨tw1525, tw13⟩, by decide +kernel, by decide +kernel, by decide +kernel⟩
theorem tw1523 : Cond.instanceMethod ⟨"RiverIfsModel", "shore", "(I)I"⟩ ∈ lw_good := lw_t (i := 1523) (by decide +kernel) (by decide +kernel)
theorem tw1524 : Cond.selects "RiverIfsModel" ⟨"RiverIfsModel", "shore", "(I)I"⟩ ⟨"RiverIfsModel", "shore", "(I)I"⟩ ∈ lw_good := lw_t (i := 1524) (by decide +kernel) (by decide +kernel)
theorem tw1522 : Cond.methodLink "RiverIfsLaw" 138 ⟨"RiverIfsModel", "shore", "(I)I"⟩ ∈ lw_good := lw_t (i := 1522) (by decide +kernel) (by decide +kernel)
theorem cL_138 : CV RL 138 mX12_shore 1 12 := ⟨cmX12_shore _ _, _, _, _, rfl, tw1522, tw1523, tw1524⟩
theorem tw1517 : Cond.code ⟨"RiverIfsModel", "thrown", "()I"⟩ prog_14_method_2_code 1 (some .int) ∈ lw_good := lw_t (i := 1517) (by decide +kernel) (by decide +kernel)
theorem cmX12_thrown (own : String) (idx : Nat) : CM own idx mX12_thrown 0 := ⟨⟨by decide +kernel, rfl, by decide⟩, ⟨tw1517, tw13⟩, by decide +kernel, by decide +kernel, by decide +kernel⟩
theorem tw1515 : Cond.instanceMethod ⟨"RiverIfsModel", "thrown", "()I"⟩ ∈ lw_good := lw_t (i := 1515) (by decide +kernel) (by decide +kernel)
theorem tw1516 : Cond.selects "RiverIfsModel" ⟨"RiverIfsModel", "thrown", "()I"⟩ ⟨"RiverIfsModel", "thrown", "()I"⟩ ∈ lw_good := lw_t (i := 1516) (by decide +kernel) (by decide +kernel)
theorem tw1514 : Cond.methodLink "RiverIfsLaw" 139 ⟨"RiverIfsModel", "thrown", "()I"⟩ ∈ lw_good := lw_t (i := 1514) (by decide +kernel) (by decide +kernel)
theorem cL_139 : CV RL 139 mX12_thrown 0 12 := ⟨cmX12_thrown _ _, _, _, _, rfl, tw1514, tw1515, tw1516⟩
theorem tw409 : Cond.code ⟨"RiverIfs", "fault", "()I"⟩ prog_1_method_4_code 1 (some .int) ∈ lw_good := lw_t (i := 409) (by decide +kernel) (by decide +kernel)
theorem cmX11_fault (own : String) (idx : Nat) : CM own idx mX11_fault 0 := ⟨⟨by decide +kernel, rfl, by decide⟩, ⟨tw409, tw1⟩, by decide +kernel, by decide +kernel, by decide +kernel⟩
theorem tw407 : Cond.instanceMethod ⟨"RiverIfs", "fault", "()I"⟩ ∈ lw_good := lw_t (i := 407) (by decide +kernel) (by decide +kernel)
theorem tw408 : Cond.selects "RiverIfs" ⟨"RiverIfs", "fault", "()I"⟩ ⟨"RiverIfs", "fault", "()I"⟩ ∈ lw_good := lw_t (i := 408) (by decide +kernel) (by decide +kernel)
theorem tw406 : Cond.methodLink "RiverIfsLaw" 143 ⟨"RiverIfs", "fault", "()I"⟩ ∈ lw_good := lw_t (i := 406) (by decide +kernel) (by decide +kernel)
theorem cL_143 : CV RL 143 mX11_fault 0 11 := ⟨cmX11_fault _ _, _, _, _, rfl, tw406, tw407, tw408⟩
theorem tw1647 : Cond.code ⟨"RiverIfsModel", "fault", "()I"⟩ prog_14_method_40_code 1 (some .int) ∈ lw_good := lw_t (i := 1647) (by decide +kernel) (by decide +kernel)
theorem cmX12_fault (own : String) (idx : Nat) : CM own idx mX12_fault 0 := ⟨⟨by decide +kernel, rfl, by decide⟩, ⟨tw1647, tw13⟩, by decide +kernel, by decide +kernel, by decide +kernel⟩
theorem tw1645 : Cond.instanceMethod ⟨"RiverIfsModel", "fault", "()I"⟩ ∈ lw_good := lw_t (i := 1645) (by decide +kernel) (by decide +kernel)
theorem tw1646 : Cond.selects "RiverIfsModel" ⟨"RiverIfsModel", "fault", "()I"⟩ ⟨"RiverIfsModel", "fault", "()I"⟩ ∈ lw_good := lw_t (i := 1646) (by decide +kernel) (by decide +kernel)
theorem tw1644 : Cond.methodLink "RiverIfsLaw" 146 ⟨"RiverIfsModel", "fault", "()I"⟩ ∈ lw_good := lw_t (i := 1644) (by decide +kernel) (by decide +kernel)
theorem cL_146 : CV RL 146 mX12_fault 0 12 := ⟨cmX12_fault _ _, _, _, _, rfl, tw1644, tw1645, tw1646⟩
theorem tw936 : Cond.codeWith ⟨"RiverIfsLaw", "count", "(LRiverIfs;I[J)I"⟩ method_4_code 4 (some .int) [(0, 9, 12, 18)] ∈ lw_good := lw_t (i := 936) (by decide +kernel) (by decide +kernel)
theorem tw934 : Cond.methodLink "RiverIfsLaw" 147 ⟨"RiverIfsLaw", "count", "(LRiverIfs;I[J)I"⟩ ∈ lw_good := lw_t (i := 934) (by decide +kernel) (by decide +kernel)
theorem tw935 : Cond.static ⟨"RiverIfsLaw", "count", "(LRiverIfs;I[J)I"⟩ ∈ lw_good := lw_t (i := 935) (by decide +kernel) (by decide +kernel)
theorem cL_147 : CSH RL 147 mL_count 3 := ⟨⟨by decide +kernel, by decide⟩, ⟨tw936, tw0⟩, ⟨by decide +kernel, by decide +kernel, by decide +kernel⟩, tw934, tw935⟩
theorem tw1651 : Cond.code ⟨"RiverIfsModel", "count", "(I)I"⟩ prog_14_method_61_code 2 (some .int) ∈ lw_good := lw_t (i := 1651) (by decide +kernel) (by decide +kernel)
theorem cmX12_count (own : String) (idx : Nat) : CM own idx mX12_count 1 := ⟨⟨by decide +kernel, rfl, by decide⟩, ⟨tw1651, tw13⟩, by decide +kernel, by decide +kernel, by decide +kernel⟩
theorem tw1649 : Cond.instanceMethod ⟨"RiverIfsModel", "count", "(I)I"⟩ ∈ lw_good := lw_t (i := 1649) (by decide +kernel) (by decide +kernel)
theorem tw1650 : Cond.selects "RiverIfsModel" ⟨"RiverIfsModel", "count", "(I)I"⟩ ⟨"RiverIfsModel", "count", "(I)I"⟩ ∈ lw_good := lw_t (i := 1650) (by decide +kernel) (by decide +kernel)
theorem tw1648 : Cond.methodLink "RiverIfsLaw" 149 ⟨"RiverIfsModel", "count", "(I)I"⟩ ∈ lw_good := lw_t (i := 1648) (by decide +kernel) (by decide +kernel)
theorem cL_149 : CV RL 149 mX12_count 1 12 := ⟨cmX12_count _ _, _, _, _, rfl, tw1648, tw1649, tw1650⟩
theorem tw985 : Cond.codeWith ⟨"RiverIfsLaw", "worth", "(LRiverIfs;I[J)I"⟩ method_5_code 4 (some .int) [(0, 9, 12, 18)] ∈ lw_good := lw_t (i := 985) (by decide +kernel) (by decide +kernel)
theorem tw983 : Cond.methodLink "RiverIfsLaw" 150 ⟨"RiverIfsLaw", "worth", "(LRiverIfs;I[J)I"⟩ ∈ lw_good := lw_t (i := 983) (by decide +kernel) (by decide +kernel)
theorem tw984 : Cond.static ⟨"RiverIfsLaw", "worth", "(LRiverIfs;I[J)I"⟩ ∈ lw_good := lw_t (i := 984) (by decide +kernel) (by decide +kernel)
theorem cL_150 : CSH RL 150 mL_worth 3 := ⟨⟨by decide +kernel, by decide⟩, ⟨tw985, tw0⟩, ⟨by decide +kernel, by decide +kernel, by decide +kernel⟩, tw983, tw984⟩
theorem tw1687 : Cond.code ⟨"RiverIfsModel", "worth", "(I)I"⟩ prog_14_method_62_code 2 (some .int) ∈ lw_good := lw_t (i := 1687) (by decide +kernel) (by decide +kernel)
theorem cmX12_worth (own : String) (idx : Nat) : CM own idx mX12_worth 1 := ⟨⟨by decide +kernel, rfl, by decide⟩, ⟨tw1687, tw13⟩, by decide +kernel, by decide +kernel, by decide +kernel⟩
theorem tw1685 : Cond.instanceMethod ⟨"RiverIfsModel", "worth", "(I)I"⟩ ∈ lw_good := lw_t (i := 1685) (by decide +kernel) (by decide +kernel)
theorem tw1686 : Cond.selects "RiverIfsModel" ⟨"RiverIfsModel", "worth", "(I)I"⟩ ⟨"RiverIfsModel", "worth", "(I)I"⟩ ∈ lw_good := lw_t (i := 1686) (by decide +kernel) (by decide +kernel)
theorem tw1684 : Cond.methodLink "RiverIfsLaw" 152 ⟨"RiverIfsModel", "worth", "(I)I"⟩ ∈ lw_good := lw_t (i := 1684) (by decide +kernel) (by decide +kernel)
theorem cL_152 : CV RL 152 mX12_worth 1 12 := ⟨cmX12_worth _ _, _, _, _, rfl, tw1684, tw1685, tw1686⟩
theorem tw996 : Cond.codeWith ⟨"RiverIfsLaw", "conditional", "(LRiverIfs;II[J)I"⟩ method_6_code 5 (some .int) [(0, 10, 13, 18)] ∈ lw_good := lw_t (i := 996) (by decide +kernel) (by decide +kernel)
theorem tw994 : Cond.methodLink "RiverIfsLaw" 153 ⟨"RiverIfsLaw", "conditional", "(LRiverIfs;II[J)I"⟩ ∈ lw_good := lw_t (i := 994) (by decide +kernel) (by decide +kernel)
theorem tw995 : Cond.static ⟨"RiverIfsLaw", "conditional", "(LRiverIfs;II[J)I"⟩ ∈ lw_good := lw_t (i := 995) (by decide +kernel) (by decide +kernel)
theorem cL_153 : CSH RL 153 mL_conditional 4 := ⟨⟨by decide +kernel, by decide⟩, ⟨tw996, tw0⟩, ⟨by decide +kernel, by decide +kernel, by decide +kernel⟩, tw994, tw995⟩
theorem tw1698 : Cond.code ⟨"RiverIfsModel", "conditional", "(II)I"⟩ prog_14_method_63_code 3 (some .int) ∈ lw_good := lw_t (i := 1698) (by decide +kernel) (by decide +kernel)
theorem cmX12_conditional (own : String) (idx : Nat) : CM own idx mX12_conditional 2 := ⟨⟨by decide +kernel, rfl, by decide⟩, ⟨tw1698, tw13⟩, by decide +kernel, by decide +kernel, by decide +kernel⟩
theorem tw1696 : Cond.instanceMethod ⟨"RiverIfsModel", "conditional", "(II)I"⟩ ∈ lw_good := lw_t (i := 1696) (by decide +kernel) (by decide +kernel)
theorem tw1697 : Cond.selects "RiverIfsModel" ⟨"RiverIfsModel", "conditional", "(II)I"⟩ ⟨"RiverIfsModel", "conditional", "(II)I"⟩ ∈ lw_good := lw_t (i := 1697) (by decide +kernel) (by decide +kernel)
theorem tw1695 : Cond.methodLink "RiverIfsLaw" 156 ⟨"RiverIfsModel", "conditional", "(II)I"⟩ ∈ lw_good := lw_t (i := 1695) (by decide +kernel) (by decide +kernel)
theorem cL_156 : CV RL 156 mX12_conditional 2 12 := ⟨cmX12_conditional _ _, _, _, _, rfl, tw1695, tw1696, tw1697⟩
theorem tw1010 : Cond.codeWith ⟨"RiverIfsLaw", "person", "(LRiverIfs;II[J)I"⟩ method_7_code 5 (some .int) [(0, 10, 13, 18)] ∈ lw_good := lw_t (i := 1010) (by decide +kernel) (by decide +kernel)
theorem tw1008 : Cond.methodLink "RiverIfsLaw" 157 ⟨"RiverIfsLaw", "person", "(LRiverIfs;II[J)I"⟩ ∈ lw_good := lw_t (i := 1008) (by decide +kernel) (by decide +kernel)
theorem tw1009 : Cond.static ⟨"RiverIfsLaw", "person", "(LRiverIfs;II[J)I"⟩ ∈ lw_good := lw_t (i := 1009) (by decide +kernel) (by decide +kernel)
theorem cL_157 : CSH RL 157 mL_person 4 := ⟨⟨by decide +kernel, by decide⟩, ⟨tw1010, tw0⟩, ⟨by decide +kernel, by decide +kernel, by decide +kernel⟩, tw1008, tw1009⟩
theorem tw1706 : Cond.code ⟨"RiverIfsModel", "person", "(II)I"⟩ prog_14_method_64_code 3 (some .int) ∈ lw_good := lw_t (i := 1706) (by decide +kernel) (by decide +kernel)
theorem cmX12_person (own : String) (idx : Nat) : CM own idx mX12_person 2 := ⟨⟨by decide +kernel, rfl, by decide⟩, ⟨tw1706, tw13⟩, by decide +kernel, by decide +kernel, by decide +kernel⟩
theorem tw1704 : Cond.instanceMethod ⟨"RiverIfsModel", "person", "(II)I"⟩ ∈ lw_good := lw_t (i := 1704) (by decide +kernel) (by decide +kernel)
theorem tw1705 : Cond.selects "RiverIfsModel" ⟨"RiverIfsModel", "person", "(II)I"⟩ ⟨"RiverIfsModel", "person", "(II)I"⟩ ∈ lw_good := lw_t (i := 1705) (by decide +kernel) (by decide +kernel)
theorem tw1703 : Cond.methodLink "RiverIfsLaw" 159 ⟨"RiverIfsModel", "person", "(II)I"⟩ ∈ lw_good := lw_t (i := 1703) (by decide +kernel) (by decide +kernel)
theorem cL_159 : CV RL 159 mX12_person 2 12 := ⟨cmX12_person _ _, _, _, _, rfl, tw1703, tw1704, tw1705⟩
theorem tw413 : Cond.code ⟨"RiverIfs", "sundays", "(I)I"⟩ prog_1_method_10_code 3 (some .int) ∈ lw_good := lw_t (i := 413) (by decide +kernel) (by decide +kernel)
theorem cmX11_sundays (own : String) (idx : Nat) : CM own idx mX11_sundays 1 := ⟨⟨by decide +kernel, rfl, by decide⟩, ⟨tw413, tw1⟩, by decide +kernel, by decide +kernel, by decide +kernel⟩
theorem tw411 : Cond.instanceMethod ⟨"RiverIfs", "sundays", "(I)I"⟩ ∈ lw_good := lw_t (i := 411) (by decide +kernel) (by decide +kernel)
theorem tw412 : Cond.selects "RiverIfs" ⟨"RiverIfs", "sundays", "(I)I"⟩ ⟨"RiverIfs", "sundays", "(I)I"⟩ ∈ lw_good := lw_t (i := 412) (by decide +kernel) (by decide +kernel)
theorem tw410 : Cond.methodLink "RiverIfsLaw" 160 ⟨"RiverIfs", "sundays", "(I)I"⟩ ∈ lw_good := lw_t (i := 410) (by decide +kernel) (by decide +kernel)
theorem cL_160 : CV RL 160 mX11_sundays 1 11 := ⟨cmX11_sundays _ _, _, _, _, rfl, tw410, tw411, tw412⟩
theorem tw1737 : Cond.code ⟨"RiverIfsModel", "sundays", "(I)I"⟩ prog_14_method_67_code 2 (some .int) ∈ lw_good := lw_t (i := 1737) (by decide +kernel) (by decide +kernel)
theorem cmX12_sundays (own : String) (idx : Nat) : CM own idx mX12_sundays 1 := ⟨⟨by decide +kernel, rfl, by decide⟩, ⟨tw1737, tw13⟩, by decide +kernel, by decide +kernel, by decide +kernel⟩
theorem tw1735 : Cond.instanceMethod ⟨"RiverIfsModel", "sundays", "(I)I"⟩ ∈ lw_good := lw_t (i := 1735) (by decide +kernel) (by decide +kernel)
theorem tw1736 : Cond.selects "RiverIfsModel" ⟨"RiverIfsModel", "sundays", "(I)I"⟩ ⟨"RiverIfsModel", "sundays", "(I)I"⟩ ∈ lw_good := lw_t (i := 1736) (by decide +kernel) (by decide +kernel)
theorem tw1734 : Cond.methodLink "RiverIfsLaw" 163 ⟨"RiverIfsModel", "sundays", "(I)I"⟩ ∈ lw_good := lw_t (i := 1734) (by decide +kernel) (by decide +kernel)
theorem cL_163 : CV RL 163 mX12_sundays 1 12 := ⟨cmX12_sundays _ _, _, _, _, rfl, tw1734, tw1735, tw1736⟩
theorem tw1029 : Cond.codeWith ⟨"RiverIfsLaw", "has", "(LRiverIfs;IIZ[J)I"⟩ method_8_code 6 (some .int) [(0, 12, 15, 18)] ∈ lw_good := lw_t (i := 1029) (by decide +kernel) (by decide +kernel)
theorem tw1027 : Cond.methodLink "RiverIfsLaw" 164 ⟨"RiverIfsLaw", "has", "(LRiverIfs;IIZ[J)I"⟩ ∈ lw_good := lw_t (i := 1027) (by decide +kernel) (by decide +kernel)
theorem tw1028 : Cond.static ⟨"RiverIfsLaw", "has", "(LRiverIfs;IIZ[J)I"⟩ ∈ lw_good := lw_t (i := 1028) (by decide +kernel) (by decide +kernel)
theorem cL_164 : CSH RL 164 mL_has 5 := ⟨⟨by decide +kernel, by decide⟩, ⟨tw1029, tw0⟩, ⟨by decide +kernel, by decide +kernel, by decide +kernel⟩, tw1027, tw1028⟩
theorem tw1774 : Cond.code ⟨"RiverIfsModel", "has", "(IIZ)I"⟩ prog_14_method_68_code 4 (some .int) ∈ lw_good := lw_t (i := 1774) (by decide +kernel) (by decide +kernel)
theorem cmX12_has (own : String) (idx : Nat) : CM own idx mX12_has 3 := ⟨⟨by decide +kernel, rfl, by decide⟩, ⟨tw1774, tw13⟩, by decide +kernel, by decide +kernel, by decide +kernel⟩
theorem tw1772 : Cond.instanceMethod ⟨"RiverIfsModel", "has", "(IIZ)I"⟩ ∈ lw_good := lw_t (i := 1772) (by decide +kernel) (by decide +kernel)
theorem tw1773 : Cond.selects "RiverIfsModel" ⟨"RiverIfsModel", "has", "(IIZ)I"⟩ ⟨"RiverIfsModel", "has", "(IIZ)I"⟩ ∈ lw_good := lw_t (i := 1773) (by decide +kernel) (by decide +kernel)
theorem tw1771 : Cond.methodLink "RiverIfsLaw" 167 ⟨"RiverIfsModel", "has", "(IIZ)I"⟩ ∈ lw_good := lw_t (i := 1771) (by decide +kernel) (by decide +kernel)
theorem cL_167 : CV RL 167 mX12_has 3 12 := ⟨cmX12_has _ _, _, _, _, rfl, tw1771, tw1772, tw1773⟩
theorem tw1036 : Cond.codeWith ⟨"RiverIfsLaw", "miss", "(LRiverIfs;II[J)I"⟩ method_9_code 5 (some .int) [(0, 10, 13, 18)] ∈ lw_good := lw_t (i := 1036) (by decide +kernel) (by decide +kernel)
theorem tw1034 : Cond.methodLink "RiverIfsLaw" 168 ⟨"RiverIfsLaw", "miss", "(LRiverIfs;II[J)I"⟩ ∈ lw_good := lw_t (i := 1034) (by decide +kernel) (by decide +kernel)
theorem tw1035 : Cond.static ⟨"RiverIfsLaw", "miss", "(LRiverIfs;II[J)I"⟩ ∈ lw_good := lw_t (i := 1035) (by decide +kernel) (by decide +kernel)
theorem cL_168 : CSH RL 168 mL_miss 4 := ⟨⟨by decide +kernel, by decide⟩, ⟨tw1036, tw0⟩, ⟨by decide +kernel, by decide +kernel, by decide +kernel⟩, tw1034, tw1035⟩
theorem tw1778 : Cond.code ⟨"RiverIfsModel", "miss", "(II)I"⟩ prog_14_method_69_code 4 (some .int) ∈ lw_good := lw_t (i := 1778) (by decide +kernel) (by decide +kernel)
theorem cmX12_miss (own : String) (idx : Nat) : CM own idx mX12_miss 2 := ⟨⟨by decide +kernel, rfl, by decide⟩, ⟨tw1778, tw13⟩, by decide +kernel, by decide +kernel, by decide +kernel⟩
theorem tw1776 : Cond.instanceMethod ⟨"RiverIfsModel", "miss", "(II)I"⟩ ∈ lw_good := lw_t (i := 1776) (by decide +kernel) (by decide +kernel)
theorem tw1777 : Cond.selects "RiverIfsModel" ⟨"RiverIfsModel", "miss", "(II)I"⟩ ⟨"RiverIfsModel", "miss", "(II)I"⟩ ∈ lw_good := lw_t (i := 1777) (by decide +kernel) (by decide +kernel)
theorem tw1775 : Cond.methodLink "RiverIfsLaw" 170 ⟨"RiverIfsModel", "miss", "(II)I"⟩ ∈ lw_good := lw_t (i := 1775) (by decide +kernel) (by decide +kernel)
theorem cL_170 : CV RL 170 mX12_miss 2 12 := ⟨cmX12_miss _ _, _, _, _, rfl, tw1775, tw1776, tw1777⟩
theorem tw1043 : Cond.codeWith ⟨"RiverIfsLaw", "deny", "(LRiverIfs;IZ[J)I"⟩ method_10_code 5 (some .int) [(0, 17, 20, 18)] ∈ lw_good := lw_t (i := 1043) (by decide +kernel) (by decide +kernel)
theorem tw1041 : Cond.methodLink "RiverIfsLaw" 171 ⟨"RiverIfsLaw", "deny", "(LRiverIfs;IZ[J)I"⟩ ∈ lw_good := lw_t (i := 1041) (by decide +kernel) (by decide +kernel)
theorem tw1042 : Cond.static ⟨"RiverIfsLaw", "deny", "(LRiverIfs;IZ[J)I"⟩ ∈ lw_good := lw_t (i := 1042) (by decide +kernel) (by decide +kernel)
theorem cL_171 : CSH RL 171 mL_deny 4 := ⟨⟨by decide +kernel, by decide⟩, ⟨tw1043, tw0⟩, ⟨by decide +kernel, by decide +kernel, by decide +kernel⟩, tw1041, tw1042⟩
theorem tw1782 : Cond.code ⟨"RiverIfsModel", "deny", "(IZ)Z"⟩ prog_14_method_70_code 3 (some .boolean) ∈ lw_good := lw_t (i := 1782) (by decide +kernel) (by decide +kernel)
theorem cmX12_deny (own : String) (idx : Nat) : CM own idx mX12_deny 2 := ⟨⟨by decide +kernel, rfl, by decide⟩, ⟨tw1782, tw13⟩, by decide +kernel, by decide +kernel, by decide +kernel⟩
theorem tw1780 : Cond.instanceMethod ⟨"RiverIfsModel", "deny", "(IZ)Z"⟩ ∈ lw_good := lw_t (i := 1780) (by decide +kernel) (by decide +kernel)
theorem tw1781 : Cond.selects "RiverIfsModel" ⟨"RiverIfsModel", "deny", "(IZ)Z"⟩ ⟨"RiverIfsModel", "deny", "(IZ)Z"⟩ ∈ lw_good := lw_t (i := 1781) (by decide +kernel) (by decide +kernel)
theorem tw1779 : Cond.methodLink "RiverIfsLaw" 174 ⟨"RiverIfsModel", "deny", "(IZ)Z"⟩ ∈ lw_good := lw_t (i := 1779) (by decide +kernel) (by decide +kernel)
theorem cL_174 : CV RL 174 mX12_deny 2 12 := ⟨cmX12_deny _ _, _, _, _, rfl, tw1779, tw1780, tw1781⟩
theorem tw529 : Cond.code ⟨"RiverIfs", "bridge", "(I)I"⟩ prog_1_method_14_code 3 (some .int) ∈ lw_good := lw_t (i := 529) (by decide +kernel) (by decide +kernel)
theorem cmX11_bridge (own : String) (idx : Nat) : CM own idx mX11_bridge 1 := ⟨⟨by decide +kernel, rfl, by decide⟩, ⟨tw529, tw1⟩, by decide +kernel, by decide +kernel, by decide +kernel⟩
theorem tw527 : Cond.instanceMethod ⟨"RiverIfs", "bridge", "(I)I"⟩ ∈ lw_good := lw_t (i := 527) (by decide +kernel) (by decide +kernel)
theorem tw528 : Cond.selects "RiverIfs" ⟨"RiverIfs", "bridge", "(I)I"⟩ ⟨"RiverIfs", "bridge", "(I)I"⟩ ∈ lw_good := lw_t (i := 528) (by decide +kernel) (by decide +kernel)
theorem tw526 : Cond.methodLink "RiverIfsLaw" 175 ⟨"RiverIfs", "bridge", "(I)I"⟩ ∈ lw_good := lw_t (i := 526) (by decide +kernel) (by decide +kernel)
theorem cL_175 : CV RL 175 mX11_bridge 1 11 := ⟨cmX11_bridge _ _, _, _, _, rfl, tw526, tw527, tw528⟩
theorem tw1790 : Cond.code ⟨"RiverIfsModel", "bridge", "(I)I"⟩ prog_14_method_71_code 3 (some .int) ∈ lw_good := lw_t (i := 1790) (by decide +kernel) (by decide +kernel)
theorem cmX12_bridge (own : String) (idx : Nat) : CM own idx mX12_bridge 1 := ⟨⟨by decide +kernel, rfl, by decide⟩, ⟨tw1790, tw13⟩, by decide +kernel, by decide +kernel, by decide +kernel⟩
theorem tw1788 : Cond.instanceMethod ⟨"RiverIfsModel", "bridge", "(I)I"⟩ ∈ lw_good := lw_t (i := 1788) (by decide +kernel) (by decide +kernel)
theorem tw1789 : Cond.selects "RiverIfsModel" ⟨"RiverIfsModel", "bridge", "(I)I"⟩ ⟨"RiverIfsModel", "bridge", "(I)I"⟩ ∈ lw_good := lw_t (i := 1789) (by decide +kernel) (by decide +kernel)
theorem tw1787 : Cond.methodLink "RiverIfsLaw" 178 ⟨"RiverIfsModel", "bridge", "(I)I"⟩ ∈ lw_good := lw_t (i := 1787) (by decide +kernel) (by decide +kernel)
theorem cL_178 : CV RL 178 mX12_bridge 1 12 := ⟨cmX12_bridge _ _, _, _, _, rfl, tw1787, tw1788, tw1789⟩
theorem tw533 : Cond.code ⟨"RiverIfs", "undo", "()I"⟩ prog_1_method_16_code 1 (some .int) ∈ lw_good := lw_t (i := 533) (by decide +kernel) (by decide +kernel)
theorem cmX11_undo (own : String) (idx : Nat) : CM own idx mX11_undo 0 := ⟨⟨by decide +kernel, rfl, by decide⟩, ⟨tw533, tw1⟩, by decide +kernel, by decide +kernel, by decide +kernel⟩
theorem tw531 : Cond.instanceMethod ⟨"RiverIfs", "undo", "()I"⟩ ∈ lw_good := lw_t (i := 531) (by decide +kernel) (by decide +kernel)
theorem tw532 : Cond.selects "RiverIfs" ⟨"RiverIfs", "undo", "()I"⟩ ⟨"RiverIfs", "undo", "()I"⟩ ∈ lw_good := lw_t (i := 532) (by decide +kernel) (by decide +kernel)
theorem tw530 : Cond.methodLink "RiverIfsLaw" 179 ⟨"RiverIfs", "undo", "()I"⟩ ∈ lw_good := lw_t (i := 530) (by decide +kernel) (by decide +kernel)
theorem cL_179 : CV RL 179 mX11_undo 0 11 := ⟨cmX11_undo _ _, _, _, _, rfl, tw530, tw531, tw532⟩
theorem tw1795 : Cond.code ⟨"RiverIfsModel", "undo", "()I"⟩ prog_14_method_72_code 1 (some .int) ∈ lw_good := lw_t (i := 1795) (by decide +kernel) (by decide +kernel)
theorem cmX12_undo (own : String) (idx : Nat) : CM own idx mX12_undo 0 := ⟨⟨by decide +kernel, rfl, by decide⟩, ⟨tw1795, tw13⟩, by decide +kernel, by decide +kernel, by decide +kernel⟩
theorem tw1793 : Cond.instanceMethod ⟨"RiverIfsModel", "undo", "()I"⟩ ∈ lw_good := lw_t (i := 1793) (by decide +kernel) (by decide +kernel)
theorem tw1794 : Cond.selects "RiverIfsModel" ⟨"RiverIfsModel", "undo", "()I"⟩ ⟨"RiverIfsModel", "undo", "()I"⟩ ∈ lw_good := lw_t (i := 1794) (by decide +kernel) (by decide +kernel)
theorem tw1792 : Cond.methodLink "RiverIfsLaw" 182 ⟨"RiverIfsModel", "undo", "()I"⟩ ∈ lw_good := lw_t (i := 1792) (by decide +kernel) (by decide +kernel)
theorem cL_182 : CV RL 182 mX12_undo 0 12 := ⟨cmX12_undo _ _, _, _, _, rfl, tw1792, tw1793, tw1794⟩
theorem tw1050 : Cond.codeWith ⟨"RiverIfsLaw", "crossing", "(LRiverIfs;I[J)I"⟩ method_11_code 4 (some .int) [(0, 9, 12, 13)] ∈ lw_good := lw_t (i := 1050) (by decide +kernel) (by decide +kernel)
theorem tw1048 : Cond.methodLink "RiverIfsLaw" 183 ⟨"RiverIfsLaw", "crossing", "(LRiverIfs;I[J)I"⟩ ∈ lw_good := lw_t (i := 1048) (by decide +kernel) (by decide +kernel)
theorem tw1049 : Cond.static ⟨"RiverIfsLaw", "crossing", "(LRiverIfs;I[J)I"⟩ ∈ lw_good := lw_t (i := 1049) (by decide +kernel) (by decide +kernel)
theorem cL_183 : CSH RL 183 mL_crossing 3 := ⟨⟨by decide +kernel, by decide⟩, ⟨tw1050, tw0⟩, ⟨by decide +kernel, by decide +kernel, by decide +kernel⟩, tw1048, tw1049⟩
theorem tw1803 : Cond.code ⟨"RiverIfsModel", "crossing", "(I)I"⟩ prog_14_method_73_code 3 (some .int) ∈ lw_good := lw_t (i := 1803) (by decide +kernel) (by decide +kernel)
theorem cmX12_crossing (own : String) (idx : Nat) : CM own idx mX12_crossing 1 := ⟨⟨by decide +kernel, rfl, by decide⟩, ⟨tw1803, tw13⟩, by decide +kernel, by decide +kernel, by decide +kernel⟩
theorem tw1801 : Cond.instanceMethod ⟨"RiverIfsModel", "crossing", "(I)I"⟩ ∈ lw_good := lw_t (i := 1801) (by decide +kernel) (by decide +kernel)
theorem tw1802 : Cond.selects "RiverIfsModel" ⟨"RiverIfsModel", "crossing", "(I)I"⟩ ⟨"RiverIfsModel", "crossing", "(I)I"⟩ ∈ lw_good := lw_t (i := 1802) (by decide +kernel) (by decide +kernel)
theorem tw1800 : Cond.methodLink "RiverIfsLaw" 185 ⟨"RiverIfsModel", "crossing", "(I)I"⟩ ∈ lw_good := lw_t (i := 1800) (by decide +kernel) (by decide +kernel)
theorem cL_185 : CV RL 185 mX12_crossing 1 12 := ⟨cmX12_crossing _ _, _, _, _, rfl, tw1800, tw1801, tw1802⟩
theorem tw1057 : Cond.codeWith ⟨"RiverIfsLaw", "then", "(LRiverIfs;III[J)I"⟩ method_12_code 6 (some .int) [(0, 12, 15, 18), (0, 12, 19, 13)] ∈ lw_good := lw_t (i := 1057) (by decide +kernel) (by decide +kernel)
theorem tw1055 : Cond.methodLink "RiverIfsLaw" 186 ⟨"RiverIfsLaw", "then", "(LRiverIfs;III[J)I"⟩ ∈ lw_good := lw_t (i := 1055) (by decide +kernel) (by decide +kernel)
theorem tw1056 : Cond.static ⟨"RiverIfsLaw", "then", "(LRiverIfs;III[J)I"⟩ ∈ lw_good := lw_t (i := 1056) (by decide +kernel) (by decide +kernel)
theorem cL_186 : CSH RL 186 mL_then 5 := ⟨⟨by decide +kernel, by decide⟩, ⟨tw1057, tw0⟩, ⟨by decide +kernel, by decide +kernel, by decide +kernel⟩, tw1055, tw1056⟩
theorem tw1808 : Cond.code ⟨"RiverIfsModel", "then", "(III)I"⟩ prog_14_method_74_code 5 (some .int) ∈ lw_good := lw_t (i := 1808) (by decide +kernel) (by decide +kernel)
theorem cmX12_then (own : String) (idx : Nat) : CM own idx mX12_then 3 := ⟨⟨by decide +kernel, rfl, by decide⟩, ⟨tw1808, tw13⟩, by decide +kernel, by decide +kernel, by decide +kernel⟩
theorem tw1806 : Cond.instanceMethod ⟨"RiverIfsModel", "then", "(III)I"⟩ ∈ lw_good := lw_t (i := 1806) (by decide +kernel) (by decide +kernel)
theorem tw1807 : Cond.selects "RiverIfsModel" ⟨"RiverIfsModel", "then", "(III)I"⟩ ⟨"RiverIfsModel", "then", "(III)I"⟩ ∈ lw_good := lw_t (i := 1807) (by decide +kernel) (by decide +kernel)
theorem tw1805 : Cond.methodLink "RiverIfsLaw" 189 ⟨"RiverIfsModel", "then", "(III)I"⟩ ∈ lw_good := lw_t (i := 1805) (by decide +kernel) (by decide +kernel)
theorem cL_189 : CV RL 189 mX12_then 3 12 := ⟨cmX12_then _ _, _, _, _, rfl, tw1805, tw1806, tw1807⟩
theorem tw1068 : Cond.codeWith ⟨"RiverIfsLaw", "first", "(LRiverIfs;I[J)I"⟩ method_13_code 4 (some .int) [(0, 9, 12, 18)] ∈ lw_good := lw_t (i := 1068) (by decide +kernel) (by decide +kernel)
theorem tw1066 : Cond.methodLink "RiverIfsLaw" 190 ⟨"RiverIfsLaw", "first", "(LRiverIfs;I[J)I"⟩ ∈ lw_good := lw_t (i := 1066) (by decide +kernel) (by decide +kernel)
theorem tw1067 : Cond.static ⟨"RiverIfsLaw", "first", "(LRiverIfs;I[J)I"⟩ ∈ lw_good := lw_t (i := 1067) (by decide +kernel) (by decide +kernel)
theorem cL_190 : CSH RL 190 mL_first 3 := ⟨⟨by decide +kernel, by decide⟩, ⟨tw1068, tw0⟩, ⟨by decide +kernel, by decide +kernel, by decide +kernel⟩, tw1066, tw1067⟩
theorem tw1812 : Cond.code ⟨"RiverIfsModel", "first", "(I)I"⟩ prog_14_method_75_code 4 (some .int) ∈ lw_good := lw_t (i := 1812) (by decide +kernel) (by decide +kernel)
theorem cmX12_first (own : String) (idx : Nat) : CM own idx mX12_first 1 := ⟨⟨by decide +kernel, rfl, by decide⟩, ⟨tw1812, tw13⟩, by decide +kernel, by decide +kernel, by decide +kernel⟩
theorem tw1810 : Cond.instanceMethod ⟨"RiverIfsModel", "first", "(I)I"⟩ ∈ lw_good := lw_t (i := 1810) (by decide +kernel) (by decide +kernel)
theorem tw1811 : Cond.selects "RiverIfsModel" ⟨"RiverIfsModel", "first", "(I)I"⟩ ⟨"RiverIfsModel", "first", "(I)I"⟩ ∈ lw_good := lw_t (i := 1811) (by decide +kernel) (by decide +kernel)
theorem tw1809 : Cond.methodLink "RiverIfsLaw" 192 ⟨"RiverIfsModel", "first", "(I)I"⟩ ∈ lw_good := lw_t (i := 1809) (by decide +kernel) (by decide +kernel)
theorem cL_192 : CV RL 192 mX12_first 1 12 := ⟨cmX12_first _ _, _, _, _, rfl, tw1809, tw1810, tw1811⟩
theorem tw1075 : Cond.codeWith ⟨"RiverIfsLaw", "waiting", "(LRiverIfs;II[J)I"⟩ method_14_code 5 (some .int) [(0, 10, 13, 18), (0, 10, 17, 13)] ∈ lw_good := lw_t (i := 1075) (by decide +kernel) (by decide +kernel)
theorem tw1073 : Cond.methodLink "RiverIfsLaw" 193 ⟨"RiverIfsLaw", "waiting", "(LRiverIfs;II[J)I"⟩ ∈ lw_good := lw_t (i := 1073) (by decide +kernel) (by decide +kernel)
theorem tw1074 : Cond.static ⟨"RiverIfsLaw", "waiting", "(LRiverIfs;II[J)I"⟩ ∈ lw_good := lw_t (i := 1074) (by decide +kernel) (by decide +kernel)
theorem cL_193 : CSH RL 193 mL_waiting 4 := ⟨⟨by decide +kernel, by decide⟩, ⟨tw1075, tw0⟩, ⟨by decide +kernel, by decide +kernel, by decide +kernel⟩, tw1073, tw1074⟩
theorem tw1816 : Cond.code ⟨"RiverIfsModel", "waiting", "(II)I"⟩ prog_14_method_76_code 5 (some .int) ∈ lw_good := lw_t (i := 1816) (by decide +kernel) (by decide +kernel)
theorem cmX12_waiting (own : String) (idx : Nat) : CM own idx mX12_waiting 2 := ⟨⟨by decide +kernel, rfl, by decide⟩, ⟨tw1816, tw13⟩, by decide +kernel, by decide +kernel, by decide +kernel⟩
theorem tw1814 : Cond.instanceMethod ⟨"RiverIfsModel", "waiting", "(II)I"⟩ ∈ lw_good := lw_t (i := 1814) (by decide +kernel) (by decide +kernel)
theorem tw1815 : Cond.selects "RiverIfsModel" ⟨"RiverIfsModel", "waiting", "(II)I"⟩ ⟨"RiverIfsModel", "waiting", "(II)I"⟩ ∈ lw_good := lw_t (i := 1815) (by decide +kernel) (by decide +kernel)
theorem tw1813 : Cond.methodLink "RiverIfsLaw" 195 ⟨"RiverIfsModel", "waiting", "(II)I"⟩ ∈ lw_good := lw_t (i := 1813) (by decide +kernel) (by decide +kernel)
theorem cL_195 : CV RL 195 mX12_waiting 2 12 := ⟨cmX12_waiting _ _, _, _, _, rfl, tw1813, tw1814, tw1815⟩
theorem tw1086 : Cond.codeWith ⟨"RiverIfsLaw", "toBear", "(LRiverIfs;I[J)I"⟩ method_15_code 4 (some .int) [(0, 9, 12, 13)] ∈ lw_good := lw_t (i := 1086) (by decide +kernel) (by decide +kernel)
theorem tw1084 : Cond.methodLink "RiverIfsLaw" 196 ⟨"RiverIfsLaw", "toBear", "(LRiverIfs;I[J)I"⟩ ∈ lw_good := lw_t (i := 1084) (by decide +kernel) (by decide +kernel)
theorem tw1085 : Cond.static ⟨"RiverIfsLaw", "toBear", "(LRiverIfs;I[J)I"⟩ ∈ lw_good := lw_t (i := 1085) (by decide +kernel) (by decide +kernel)
theorem cL_196 : CSH RL 196 mL_toBear 3 := ⟨⟨by decide +kernel, by decide⟩, ⟨tw1086, tw0⟩, ⟨by decide +kernel, by decide +kernel, by decide +kernel⟩, tw1084, tw1085⟩
theorem tw1828 : Cond.code ⟨"RiverIfsModel", "toBear", "(I)I"⟩ prog_14_method_79_code 6 (some .int) ∈ lw_good := lw_t (i := 1828) (by decide +kernel) (by decide +kernel)
theorem cmX12_toBear (own : String) (idx : Nat) : CM own idx mX12_toBear 1 := ⟨⟨by decide +kernel, rfl, by decide⟩, ⟨tw1828, tw13⟩, by decide +kernel, by decide +kernel, by decide +kernel⟩
theorem tw1826 : Cond.instanceMethod ⟨"RiverIfsModel", "toBear", "(I)I"⟩ ∈ lw_good := lw_t (i := 1826) (by decide +kernel) (by decide +kernel)
theorem tw1827 : Cond.selects "RiverIfsModel" ⟨"RiverIfsModel", "toBear", "(I)I"⟩ ⟨"RiverIfsModel", "toBear", "(I)I"⟩ ∈ lw_good := lw_t (i := 1827) (by decide +kernel) (by decide +kernel)
theorem tw1825 : Cond.methodLink "RiverIfsLaw" 198 ⟨"RiverIfsModel", "toBear", "(I)I"⟩ ∈ lw_good := lw_t (i := 1825) (by decide +kernel) (by decide +kernel)
theorem cL_198 : CV RL 198 mX12_toBear 1 12 := ⟨cmX12_toBear _ _, _, _, _, rfl, tw1825, tw1826, tw1827⟩
theorem tw1097 : Cond.codeWith ⟨"RiverIfsLaw", "comes", "(LRiverIfs;I[J)I"⟩ method_16_code 4 (some .int) [(0, 9, 12, 13)] ∈ lw_good := lw_t (i := 1097) (by decide +kernel) (by decide +kernel)
theorem tw1095 : Cond.methodLink "RiverIfsLaw" 199 ⟨"RiverIfsLaw", "comes", "(LRiverIfs;I[J)I"⟩ ∈ lw_good := lw_t (i := 1095) (by decide +kernel) (by decide +kernel)
theorem tw1096 : Cond.static ⟨"RiverIfsLaw", "comes", "(LRiverIfs;I[J)I"⟩ ∈ lw_good := lw_t (i := 1096) (by decide +kernel) (by decide +kernel)
theorem cL_199 : CSH RL 199 mL_comes 3 := ⟨⟨by decide +kernel, by decide⟩, ⟨tw1097, tw0⟩, ⟨by decide +kernel, by decide +kernel, by decide +kernel⟩, tw1095, tw1096⟩
theorem tw1832 : Cond.code ⟨"RiverIfsModel", "comes", "(I)I"⟩ prog_14_method_80_code 2 (some .int) ∈ lw_good := lw_t (i := 1832) (by decide +kernel) (by decide +kernel)
theorem cmX12_comes (own : String) (idx : Nat) : CM own idx mX12_comes 1 := ⟨⟨by decide +kernel, rfl, by decide⟩, ⟨tw1832, tw13⟩, by decide +kernel, by decide +kernel, by decide +kernel⟩
theorem tw1830 : Cond.instanceMethod ⟨"RiverIfsModel", "comes", "(I)I"⟩ ∈ lw_good := lw_t (i := 1830) (by decide +kernel) (by decide +kernel)
theorem tw1831 : Cond.selects "RiverIfsModel" ⟨"RiverIfsModel", "comes", "(I)I"⟩ ⟨"RiverIfsModel", "comes", "(I)I"⟩ ∈ lw_good := lw_t (i := 1831) (by decide +kernel) (by decide +kernel)
theorem tw1829 : Cond.methodLink "RiverIfsLaw" 201 ⟨"RiverIfsModel", "comes", "(I)I"⟩ ∈ lw_good := lw_t (i := 1829) (by decide +kernel) (by decide +kernel)
theorem cL_201 : CV RL 201 mX12_comes 1 12 := ⟨cmX12_comes _ _, _, _, _, rfl, tw1829, tw1830, tw1831⟩
theorem tw1105 : Cond.codeWith ⟨"RiverIfsLaw", "why", "(LRiverIfs;II[J)I"⟩ method_17_code 5 (some .int) [(0, 10, 13, 18), (0, 10, 17, 13)] ∈ lw_good := lw_t (i := 1105) (by decide +kernel) (by decide +kernel)
theorem tw1103 : Cond.methodLink "RiverIfsLaw" 202 ⟨"RiverIfsLaw", "why", "(LRiverIfs;II[J)I"⟩ ∈ lw_good := lw_t (i := 1103) (by decide +kernel) (by decide +kernel)
theorem tw1104 : Cond.static ⟨"RiverIfsLaw", "why", "(LRiverIfs;II[J)I"⟩ ∈ lw_good := lw_t (i := 1104) (by decide +kernel) (by decide +kernel)
theorem cL_202 : CSH RL 202 mL_why 4 := ⟨⟨by decide +kernel, by decide⟩, ⟨tw1105, tw0⟩, ⟨by decide +kernel, by decide +kernel, by decide +kernel⟩, tw1103, tw1104⟩
theorem tw1840 : Cond.code ⟨"RiverIfsModel", "why", "(II)I"⟩ prog_14_method_81_code 8 (some .int) ∈ lw_good := lw_t (i := 1840) (by decide +kernel) (by decide +kernel)
theorem cmX12_why (own : String) (idx : Nat) : CM own idx mX12_why 2 := ⟨⟨by decide +kernel, rfl, by decide⟩, ⟨tw1840, tw13⟩, by decide +kernel, by decide +kernel, by decide +kernel⟩
theorem tw1838 : Cond.instanceMethod ⟨"RiverIfsModel", "why", "(II)I"⟩ ∈ lw_good := lw_t (i := 1838) (by decide +kernel) (by decide +kernel)
theorem tw1839 : Cond.selects "RiverIfsModel" ⟨"RiverIfsModel", "why", "(II)I"⟩ ⟨"RiverIfsModel", "why", "(II)I"⟩ ∈ lw_good := lw_t (i := 1839) (by decide +kernel) (by decide +kernel)
theorem tw1837 : Cond.methodLink "RiverIfsLaw" 204 ⟨"RiverIfsModel", "why", "(II)I"⟩ ∈ lw_good := lw_t (i := 1837) (by decide +kernel) (by decide +kernel)
theorem cL_204 : CV RL 204 mX12_why 2 12 := ⟨cmX12_why _ _, _, _, _, rfl, tw1837, tw1838, tw1839⟩
theorem tw1124 : Cond.codeWith ⟨"RiverIfsLaw", "needed", "(LRiverIfs;II[J)I"⟩ method_18_code 5 (some .int) [(0, 10, 13, 18), (0, 10, 17, 13)] ∈ lw_good := lw_t (i := 1124) (by decide +kernel) (by decide +kernel)
theorem tw1122 : Cond.methodLink "RiverIfsLaw" 205 ⟨"RiverIfsLaw", "needed", "(LRiverIfs;II[J)I"⟩ ∈ lw_good := lw_t (i := 1122) (by decide +kernel) (by decide +kernel)
theorem tw1123 : Cond.static ⟨"RiverIfsLaw", "needed", "(LRiverIfs;II[J)I"⟩ ∈ lw_good := lw_t (i := 1123) (by decide +kernel) (by decide +kernel)
theorem cL_205 : CSH RL 205 mL_needed 4 := ⟨⟨by decide +kernel, by decide⟩, ⟨tw1124, tw0⟩, ⟨by decide +kernel, by decide +kernel, by decide +kernel⟩, tw1122, tw1123⟩
theorem tw1844 : Cond.code ⟨"RiverIfsModel", "needed", "(II)I"⟩ prog_14_method_83_code 3 (some .int) ∈ lw_good := lw_t (i := 1844) (by decide +kernel) (by decide +kernel)
theorem cmX12_needed (own : String) (idx : Nat) : CM own idx mX12_needed 2 := ⟨⟨by decide +kernel, rfl, by decide⟩, ⟨tw1844, tw13⟩, by decide +kernel, by decide +kernel, by decide +kernel⟩
theorem tw1842 : Cond.instanceMethod ⟨"RiverIfsModel", "needed", "(II)I"⟩ ∈ lw_good := lw_t (i := 1842) (by decide +kernel) (by decide +kernel)
theorem tw1843 : Cond.selects "RiverIfsModel" ⟨"RiverIfsModel", "needed", "(II)I"⟩ ⟨"RiverIfsModel", "needed", "(II)I"⟩ ∈ lw_good := lw_t (i := 1843) (by decide +kernel) (by decide +kernel)
theorem tw1841 : Cond.methodLink "RiverIfsLaw" 207 ⟨"RiverIfsModel", "needed", "(II)I"⟩ ∈ lw_good := lw_t (i := 1841) (by decide +kernel) (by decide +kernel)
theorem cL_207 : CV RL 207 mX12_needed 2 12 := ⟨cmX12_needed _ _, _, _, _, rfl, tw1841, tw1842, tw1843⟩
theorem tw1131 : Cond.codeWith ⟨"RiverIfsLaw", "fewest", "(LRiverIfs;II[J)I"⟩ method_19_code 5 (some .int) [(0, 10, 13, 18), (0, 10, 17, 13)] ∈ lw_good := lw_t (i := 1131) (by decide +kernel) (by decide +kernel)
theorem tw1129 : Cond.methodLink "RiverIfsLaw" 208 ⟨"RiverIfsLaw", "fewest", "(LRiverIfs;II[J)I"⟩ ∈ lw_good := lw_t (i := 1129) (by decide +kernel) (by decide +kernel)
theorem tw1130 : Cond.static ⟨"RiverIfsLaw", "fewest", "(LRiverIfs;II[J)I"⟩ ∈ lw_good := lw_t (i := 1130) (by decide +kernel) (by decide +kernel)
theorem cL_208 : CSH RL 208 mL_fewest 4 := ⟨⟨by decide +kernel, by decide⟩, ⟨tw1131, tw0⟩, ⟨by decide +kernel, by decide +kernel, by decide +kernel⟩, tw1129, tw1130⟩
theorem tw1852 : Cond.code ⟨"RiverIfsModel", "fewest", "(II)I"⟩ prog_14_method_84_code 5 (some .int) ∈ lw_good := lw_t (i := 1852) (by decide +kernel) (by decide +kernel)
theorem cmX12_fewest (own : String) (idx : Nat) : CM own idx mX12_fewest 2 := ⟨⟨by decide +kernel, rfl, by decide⟩, ⟨tw1852, tw13⟩, by decide +kernel, by decide +kernel, by decide +kernel⟩
theorem tw1850 : Cond.instanceMethod ⟨"RiverIfsModel", "fewest", "(II)I"⟩ ∈ lw_good := lw_t (i := 1850) (by decide +kernel) (by decide +kernel)
theorem tw1851 : Cond.selects "RiverIfsModel" ⟨"RiverIfsModel", "fewest", "(II)I"⟩ ⟨"RiverIfsModel", "fewest", "(II)I"⟩ ∈ lw_good := lw_t (i := 1851) (by decide +kernel) (by decide +kernel)
theorem tw1849 : Cond.methodLink "RiverIfsLaw" 210 ⟨"RiverIfsModel", "fewest", "(II)I"⟩ ∈ lw_good := lw_t (i := 1849) (by decide +kernel) (by decide +kernel)
theorem cL_210 : CV RL 210 mX12_fewest 2 12 := ⟨cmX12_fewest _ _, _, _, _, rfl, tw1849, tw1850, tw1851⟩
theorem tw1139 : Cond.codeWith ⟨"RiverIfsLaw", "leads", "(LRiverIfs;II[J)I"⟩ method_20_code 5 (some .int) [(0, 17, 20, 18)] ∈ lw_good := lw_t (i := 1139) (by decide +kernel) (by decide +kernel)
theorem tw1137 : Cond.methodLink "RiverIfsLaw" 211 ⟨"RiverIfsLaw", "leads", "(LRiverIfs;II[J)I"⟩ ∈ lw_good := lw_t (i := 1137) (by decide +kernel) (by decide +kernel)
theorem tw1138 : Cond.static ⟨"RiverIfsLaw", "leads", "(LRiverIfs;II[J)I"⟩ ∈ lw_good := lw_t (i := 1138) (by decide +kernel) (by decide +kernel)
theorem cL_211 : CSH RL 211 mL_leads 4 := ⟨⟨by decide +kernel, by decide⟩, ⟨tw1139, tw0⟩, ⟨by decide +kernel, by decide +kernel, by decide +kernel⟩, tw1137, tw1138⟩
theorem tw1856 : Cond.code ⟨"RiverIfsModel", "leads", "(II)Z"⟩ prog_14_method_85_code 3 (some .boolean) ∈ lw_good := lw_t (i := 1856) (by decide +kernel) (by decide +kernel)
theorem cmX12_leads (own : String) (idx : Nat) : CM own idx mX12_leads 2 := ⟨⟨by decide +kernel, rfl, by decide⟩, ⟨tw1856, tw13⟩, by decide +kernel, by decide +kernel, by decide +kernel⟩
theorem tw1854 : Cond.instanceMethod ⟨"RiverIfsModel", "leads", "(II)Z"⟩ ∈ lw_good := lw_t (i := 1854) (by decide +kernel) (by decide +kernel)
theorem tw1855 : Cond.selects "RiverIfsModel" ⟨"RiverIfsModel", "leads", "(II)Z"⟩ ⟨"RiverIfsModel", "leads", "(II)Z"⟩ ∈ lw_good := lw_t (i := 1855) (by decide +kernel) (by decide +kernel)
theorem tw1853 : Cond.methodLink "RiverIfsLaw" 213 ⟨"RiverIfsModel", "leads", "(II)Z"⟩ ∈ lw_good := lw_t (i := 1853) (by decide +kernel) (by decide +kernel)
theorem cL_213 : CV RL 213 mX12_leads 2 12 := ⟨cmX12_leads _ _, _, _, _, rfl, tw1853, tw1854, tw1855⟩
theorem tw1147 : Cond.codeWith ⟨"RiverIfsLaw", "like", "(LRiverIfs;II[J)I"⟩ method_21_code 5 (some .int) [(0, 10, 13, 18)] ∈ lw_good := lw_t (i := 1147) (by decide +kernel) (by decide +kernel)
theorem tw1145 : Cond.methodLink "RiverIfsLaw" 214 ⟨"RiverIfsLaw", "like", "(LRiverIfs;II[J)I"⟩ ∈ lw_good := lw_t (i := 1145) (by decide +kernel) (by decide +kernel)
theorem tw1146 : Cond.static ⟨"RiverIfsLaw", "like", "(LRiverIfs;II[J)I"⟩ ∈ lw_good := lw_t (i := 1146) (by decide +kernel) (by decide +kernel)
theorem cL_214 : CSH RL 214 mL_like 4 := ⟨⟨by decide +kernel, by decide⟩, ⟨tw1147, tw0⟩, ⟨by decide +kernel, by decide +kernel, by decide +kernel⟩, tw1145, tw1146⟩
theorem tw1876 : Cond.code ⟨"RiverIfsModel", "like", "(II)I"⟩ prog_14_method_90_code 6 (some .int) ∈ lw_good := lw_t (i := 1876) (by decide +kernel) (by decide +kernel)
theorem cmX12_like (own : String) (idx : Nat) : CM own idx mX12_like 2 := ⟨⟨by decide +kernel, rfl, by decide⟩, ⟨tw1876, tw13⟩, by decide +kernel, by decide +kernel, by decide +kernel⟩
theorem tw1874 : Cond.instanceMethod ⟨"RiverIfsModel", "like", "(II)I"⟩ ∈ lw_good := lw_t (i := 1874) (by decide +kernel) (by decide +kernel)
theorem tw1875 : Cond.selects "RiverIfsModel" ⟨"RiverIfsModel", "like", "(II)I"⟩ ⟨"RiverIfsModel", "like", "(II)I"⟩ ∈ lw_good := lw_t (i := 1875) (by decide +kernel) (by decide +kernel)
theorem tw1873 : Cond.methodLink "RiverIfsLaw" 216 ⟨"RiverIfsModel", "like", "(II)I"⟩ ∈ lw_good := lw_t (i := 1873) (by decide +kernel) (by decide +kernel)
theorem cL_216 : CV RL 216 mX12_like 2 12 := ⟨cmX12_like _ _, _, _, _, rfl, tw1873, tw1874, tw1875⟩
theorem tw1154 : Cond.codeWith ⟨"RiverIfsLaw", "toSend", "(LRiverIfs;I[J)I"⟩ method_22_code 4 (some .int) [(0, 9, 12, 13)] ∈ lw_good := lw_t (i := 1154) (by decide +kernel) (by decide +kernel)
theorem tw1152 : Cond.methodLink "RiverIfsLaw" 217 ⟨"RiverIfsLaw", "toSend", "(LRiverIfs;I[J)I"⟩ ∈ lw_good := lw_t (i := 1152) (by decide +kernel) (by decide +kernel)
theorem tw1153 : Cond.static ⟨"RiverIfsLaw", "toSend", "(LRiverIfs;I[J)I"⟩ ∈ lw_good := lw_t (i := 1153) (by decide +kernel) (by decide +kernel)
theorem cL_217 : CSH RL 217 mL_toSend 3 := ⟨⟨by decide +kernel, by decide⟩, ⟨tw1154, tw0⟩, ⟨by decide +kernel, by decide +kernel, by decide +kernel⟩, tw1152, tw1153⟩
theorem tw1880 : Cond.code ⟨"RiverIfsModel", "toSend", "(I)I"⟩ prog_14_method_91_code 7 (some .int) ∈ lw_good := lw_t (i := 1880) (by decide +kernel) (by decide +kernel)
theorem cmX12_toSend (own : String) (idx : Nat) : CM own idx mX12_toSend 1 := ⟨⟨by decide +kernel, rfl, by decide⟩, ⟨tw1880, tw13⟩, by decide +kernel, by decide +kernel, by decide +kernel⟩
theorem tw1878 : Cond.instanceMethod ⟨"RiverIfsModel", "toSend", "(I)I"⟩ ∈ lw_good := lw_t (i := 1878) (by decide +kernel) (by decide +kernel)
theorem tw1879 : Cond.selects "RiverIfsModel" ⟨"RiverIfsModel", "toSend", "(I)I"⟩ ⟨"RiverIfsModel", "toSend", "(I)I"⟩ ∈ lw_good := lw_t (i := 1879) (by decide +kernel) (by decide +kernel)
theorem tw1877 : Cond.methodLink "RiverIfsLaw" 219 ⟨"RiverIfsModel", "toSend", "(I)I"⟩ ∈ lw_good := lw_t (i := 1877) (by decide +kernel) (by decide +kernel)
theorem cL_219 : CV RL 219 mX12_toSend 1 12 := ⟨cmX12_toSend _ _, _, _, _, rfl, tw1877, tw1878, tw1879⟩
theorem tw1165 : Cond.codeWith ⟨"RiverIfsLaw", "happiest", "(LRiverIfs;I[J)I"⟩ method_23_code 4 (some .int) [(0, 9, 12, 18)] ∈ lw_good := lw_t (i := 1165) (by decide +kernel) (by decide +kernel)
theorem tw1163 : Cond.methodLink "RiverIfsLaw" 220 ⟨"RiverIfsLaw", "happiest", "(LRiverIfs;I[J)I"⟩ ∈ lw_good := lw_t (i := 1163) (by decide +kernel) (by decide +kernel)
theorem tw1164 : Cond.static ⟨"RiverIfsLaw", "happiest", "(LRiverIfs;I[J)I"⟩ ∈ lw_good := lw_t (i := 1164) (by decide +kernel) (by decide +kernel)
theorem cL_220 : CSH RL 220 mL_happiest 3 := ⟨⟨by decide +kernel, by decide⟩, ⟨tw1165, tw0⟩, ⟨by decide +kernel, by decide +kernel, by decide +kernel⟩, tw1163, tw1164⟩
theorem tw1884 : Cond.code ⟨"RiverIfsModel", "happiest", "(I)I"⟩ prog_14_method_93_code 4 (some .int) ∈ lw_good := lw_t (i := 1884) (by decide +kernel) (by decide +kernel)
theorem cmX12_happiest (own : String) (idx : Nat) : CM own idx mX12_happiest 1 := ⟨⟨by decide +kernel, rfl, by decide⟩, ⟨tw1884, tw13⟩, by decide +kernel, by decide +kernel, by decide +kernel⟩
theorem tw1882 : Cond.instanceMethod ⟨"RiverIfsModel", "happiest", "(I)I"⟩ ∈ lw_good := lw_t (i := 1882) (by decide +kernel) (by decide +kernel)
theorem tw1883 : Cond.selects "RiverIfsModel" ⟨"RiverIfsModel", "happiest", "(I)I"⟩ ⟨"RiverIfsModel", "happiest", "(I)I"⟩ ∈ lw_good := lw_t (i := 1883) (by decide +kernel) (by decide +kernel)
theorem tw1881 : Cond.methodLink "RiverIfsLaw" 222 ⟨"RiverIfsModel", "happiest", "(I)I"⟩ ∈ lw_good := lw_t (i := 1881) (by decide +kernel) (by decide +kernel)
theorem cL_222 : CV RL 222 mX12_happiest 1 12 := ⟨cmX12_happiest _ _, _, _, _, rfl, tw1881, tw1882, tw1883⟩
theorem tw1177 : Cond.codeWith ⟨"RiverIfsLaw", "critical", "(LRiverIfs;I[J)I"⟩ method_24_code 4 (some .int) [(0, 9, 12, 18)] ∈ lw_good := lw_t (i := 1177) (by decide +kernel) (by decide +kernel)
theorem tw1175 : Cond.methodLink "RiverIfsLaw" 223 ⟨"RiverIfsLaw", "critical", "(LRiverIfs;I[J)I"⟩ ∈ lw_good := lw_t (i := 1175) (by decide +kernel) (by decide +kernel)
theorem tw1176 : Cond.static ⟨"RiverIfsLaw", "critical", "(LRiverIfs;I[J)I"⟩ ∈ lw_good := lw_t (i := 1176) (by decide +kernel) (by decide +kernel)
theorem cL_223 : CSH RL 223 mL_critical 3 := ⟨⟨by decide +kernel, by decide⟩, ⟨tw1177, tw0⟩, ⟨by decide +kernel, by decide +kernel, by decide +kernel⟩, tw1175, tw1176⟩
theorem tw1893 : Cond.code ⟨"RiverIfsModel", "critical", "(I)I"⟩ prog_14_method_94_code 2 (some .int) ∈ lw_good := lw_t (i := 1893) (by decide +kernel) (by decide +kernel)
theorem cmX12_critical (own : String) (idx : Nat) : CM own idx mX12_critical 1 := ⟨⟨by decide +kernel, rfl, by decide⟩, ⟨tw1893, tw13⟩, by decide +kernel, by decide +kernel, by decide +kernel⟩
theorem tw1891 : Cond.instanceMethod ⟨"RiverIfsModel", "critical", "(I)I"⟩ ∈ lw_good := lw_t (i := 1891) (by decide +kernel) (by decide +kernel)
theorem tw1892 : Cond.selects "RiverIfsModel" ⟨"RiverIfsModel", "critical", "(I)I"⟩ ⟨"RiverIfsModel", "critical", "(I)I"⟩ ∈ lw_good := lw_t (i := 1892) (by decide +kernel) (by decide +kernel)
theorem tw1890 : Cond.methodLink "RiverIfsLaw" 225 ⟨"RiverIfsModel", "critical", "(I)I"⟩ ∈ lw_good := lw_t (i := 1890) (by decide +kernel) (by decide +kernel)
theorem cL_225 : CV RL 225 mX12_critical 1 12 := ⟨cmX12_critical _ _, _, _, _, rfl, tw1890, tw1891, tw1892⟩
theorem tw1184 : Cond.codeWith ⟨"RiverIfsLaw", "bestMissed", "(LRiverIfs;I[J)I"⟩ method_25_code 4 (some .int) [(0, 9, 12, 18)] ∈ lw_good := lw_t (i := 1184) (by decide +kernel) (by decide +kernel)
theorem tw1182 : Cond.methodLink "RiverIfsLaw" 226 ⟨"RiverIfsLaw", "bestMissed", "(LRiverIfs;I[J)I"⟩ ∈ lw_good := lw_t (i := 1182) (by decide +kernel) (by decide +kernel)
theorem tw1183 : Cond.static ⟨"RiverIfsLaw", "bestMissed", "(LRiverIfs;I[J)I"⟩ ∈ lw_good := lw_t (i := 1183) (by decide +kernel) (by decide +kernel)
theorem cL_226 : CSH RL 226 mL_bestMissed 3 := ⟨⟨by decide +kernel, by decide⟩, ⟨tw1184, tw0⟩, ⟨by decide +kernel, by decide +kernel, by decide +kernel⟩, tw1182, tw1183⟩
theorem tw1897 : Cond.code ⟨"RiverIfsModel", "bestMissed", "(I)I"⟩ prog_14_method_95_code 4 (some .int) ∈ lw_good := lw_t (i := 1897) (by decide +kernel) (by decide +kernel)
theorem cmX12_bestMissed (own : String) (idx : Nat) : CM own idx mX12_bestMissed 1 := ⟨⟨by decide +kernel, rfl, by decide⟩, ⟨tw1897, tw13⟩, by decide +kernel, by decide +kernel, by decide +kernel⟩
theorem tw1895 : Cond.instanceMethod ⟨"RiverIfsModel", "bestMissed", "(I)I"⟩ ∈ lw_good := lw_t (i := 1895) (by decide +kernel) (by decide +kernel)
theorem tw1896 : Cond.selects "RiverIfsModel" ⟨"RiverIfsModel", "bestMissed", "(I)I"⟩ ⟨"RiverIfsModel", "bestMissed", "(I)I"⟩ ∈ lw_good := lw_t (i := 1896) (by decide +kernel) (by decide +kernel)
theorem tw1894 : Cond.methodLink "RiverIfsLaw" 228 ⟨"RiverIfsModel", "bestMissed", "(I)I"⟩ ∈ lw_good := lw_t (i := 1894) (by decide +kernel) (by decide +kernel)
theorem cL_228 : CV RL 228 mX12_bestMissed 1 12 := ⟨cmX12_bestMissed _ _, _, _, _, rfl, tw1894, tw1895, tw1896⟩
theorem tw1195 : Cond.codeWith ⟨"RiverIfsLaw", "common", "(LRiverIfs;II[J)I"⟩ method_26_code 5 (some .int) [(0, 10, 13, 18)] ∈ lw_good := lw_t (i := 1195) (by decide +kernel) (by decide +kernel)
theorem tw1193 : Cond.methodLink "RiverIfsLaw" 229 ⟨"RiverIfsLaw", "common", "(LRiverIfs;II[J)I"⟩ ∈ lw_good := lw_t (i := 1193) (by decide +kernel) (by decide +kernel)
theorem tw1194 : Cond.static ⟨"RiverIfsLaw", "common", "(LRiverIfs;II[J)I"⟩ ∈ lw_good := lw_t (i := 1194) (by decide +kernel) (by decide +kernel)
theorem cL_229 : CSH RL 229 mL_common 4 := ⟨⟨by decide +kernel, by decide⟩, ⟨tw1195, tw0⟩, ⟨by decide +kernel, by decide +kernel, by decide +kernel⟩, tw1193, tw1194⟩
theorem tw1901 : Cond.code ⟨"RiverIfsModel", "common", "(II)I"⟩ prog_14_method_96_code 3 (some .int) ∈ lw_good := lw_t (i := 1901) (by decide +kernel) (by decide +kernel)
theorem cmX12_common (own : String) (idx : Nat) : CM own idx mX12_common 2 := ⟨⟨by decide +kernel, rfl, by decide⟩, ⟨tw1901, tw13⟩, by decide +kernel, by decide +kernel, by decide +kernel⟩
theorem tw1899 : Cond.instanceMethod ⟨"RiverIfsModel", "common", "(II)I"⟩ ∈ lw_good := lw_t (i := 1899) (by decide +kernel) (by decide +kernel)
theorem tw1900 : Cond.selects "RiverIfsModel" ⟨"RiverIfsModel", "common", "(II)I"⟩ ⟨"RiverIfsModel", "common", "(II)I"⟩ ∈ lw_good := lw_t (i := 1900) (by decide +kernel) (by decide +kernel)
theorem tw1898 : Cond.methodLink "RiverIfsLaw" 231 ⟨"RiverIfsModel", "common", "(II)I"⟩ ∈ lw_good := lw_t (i := 1898) (by decide +kernel) (by decide +kernel)
theorem cL_231 : CV RL 231 mX12_common 2 12 := ⟨cmX12_common _ _, _, _, _, rfl, tw1898, tw1899, tw1900⟩
theorem tw1202 : Cond.codeWith ⟨"RiverIfsLaw", "apart", "(LRiverIfs;II[J)I"⟩ method_27_code 5 (some .int) [(0, 10, 13, 18)] ∈ lw_good := lw_t (i := 1202) (by decide +kernel) (by decide +kernel)
theorem tw1200 : Cond.methodLink "RiverIfsLaw" 232 ⟨"RiverIfsLaw", "apart", "(LRiverIfs;II[J)I"⟩ ∈ lw_good := lw_t (i := 1200) (by decide +kernel) (by decide +kernel)
theorem tw1201 : Cond.static ⟨"RiverIfsLaw", "apart", "(LRiverIfs;II[J)I"⟩ ∈ lw_good := lw_t (i := 1201) (by decide +kernel) (by decide +kernel)
theorem cL_232 : CSH RL 232 mL_apart 4 := ⟨⟨by decide +kernel, by decide⟩, ⟨tw1202, tw0⟩, ⟨by decide +kernel, by decide +kernel, by decide +kernel⟩, tw1200, tw1201⟩
theorem tw1905 : Cond.code ⟨"RiverIfsModel", "apart", "(II)I"⟩ prog_14_method_97_code 3 (some .int) ∈ lw_good := lw_t (i := 1905) (by decide +kernel) (by decide +kernel)
theorem cmX12_apart (own : String) (idx : Nat) : CM own idx mX12_apart 2 := ⟨⟨by decide +kernel, rfl, by decide⟩, ⟨tw1905, tw13⟩, by decide +kernel, by decide +kernel, by decide +kernel⟩
theorem tw1903 : Cond.instanceMethod ⟨"RiverIfsModel", "apart", "(II)I"⟩ ∈ lw_good := lw_t (i := 1903) (by decide +kernel) (by decide +kernel)
theorem tw1904 : Cond.selects "RiverIfsModel" ⟨"RiverIfsModel", "apart", "(II)I"⟩ ⟨"RiverIfsModel", "apart", "(II)I"⟩ ∈ lw_good := lw_t (i := 1904) (by decide +kernel) (by decide +kernel)
theorem tw1902 : Cond.methodLink "RiverIfsLaw" 234 ⟨"RiverIfsModel", "apart", "(II)I"⟩ ∈ lw_good := lw_t (i := 1902) (by decide +kernel) (by decide +kernel)
theorem cL_234 : CV RL 234 mX12_apart 2 12 := ⟨cmX12_apart _ _, _, _, _, rfl, tw1902, tw1903, tw1904⟩
theorem tw550 : Cond.code ⟨"RiverIfs", "unhad", "()I"⟩ prog_1_method_42_code 3 (some .int) ∈ lw_good := lw_t (i := 550) (by decide +kernel) (by decide +kernel)
theorem cmX11_unhad (own : String) (idx : Nat) : CM own idx mX11_unhad 0 := ⟨⟨by decide +kernel, rfl, by decide⟩, ⟨tw550, tw1⟩, by decide +kernel, by decide +kernel, by decide +kernel⟩
theorem tw548 : Cond.instanceMethod ⟨"RiverIfs", "unhad", "()I"⟩ ∈ lw_good := lw_t (i := 548) (by decide +kernel) (by decide +kernel)
theorem tw549 : Cond.selects "RiverIfs" ⟨"RiverIfs", "unhad", "()I"⟩ ⟨"RiverIfs", "unhad", "()I"⟩ ∈ lw_good := lw_t (i := 549) (by decide +kernel) (by decide +kernel)
theorem tw547 : Cond.methodLink "RiverIfsLaw" 235 ⟨"RiverIfs", "unhad", "()I"⟩ ∈ lw_good := lw_t (i := 547) (by decide +kernel) (by decide +kernel)
theorem cL_235 : CV RL 235 mX11_unhad 0 11 := ⟨cmX11_unhad _ _, _, _, _, rfl, tw547, tw548, tw549⟩
theorem tw1909 : Cond.code ⟨"RiverIfsModel", "unhad", "()I"⟩ prog_14_method_98_code 3 (some .int) ∈ lw_good := lw_t (i := 1909) (by decide +kernel) (by decide +kernel)
theorem cmX12_unhad (own : String) (idx : Nat) : CM own idx mX12_unhad 0 := ⟨⟨by decide +kernel, rfl, by decide⟩, ⟨tw1909, tw13⟩, by decide +kernel, by decide +kernel, by decide +kernel⟩
theorem tw1907 : Cond.instanceMethod ⟨"RiverIfsModel", "unhad", "()I"⟩ ∈ lw_good := lw_t (i := 1907) (by decide +kernel) (by decide +kernel)
theorem tw1908 : Cond.selects "RiverIfsModel" ⟨"RiverIfsModel", "unhad", "()I"⟩ ⟨"RiverIfsModel", "unhad", "()I"⟩ ∈ lw_good := lw_t (i := 1908) (by decide +kernel) (by decide +kernel)
theorem tw1906 : Cond.methodLink "RiverIfsLaw" 238 ⟨"RiverIfsModel", "unhad", "()I"⟩ ∈ lw_good := lw_t (i := 1906) (by decide +kernel) (by decide +kernel)
theorem cL_238 : CV RL 238 mX12_unhad 0 12 := ⟨cmX12_unhad _ _, _, _, _, rfl, tw1906, tw1907, tw1908⟩
theorem tw545 : Cond.code ⟨"RiverIfs", "resting", "()I"⟩ prog_1_method_31_code 3 (some .int) ∈ lw_good := lw_t (i := 545) (by decide +kernel) (by decide +kernel)
theorem cmX11_resting (own : String) (idx : Nat) : CM own idx mX11_resting 0 := ⟨⟨by decide +kernel, rfl, by decide⟩, ⟨tw545, tw1⟩, by decide +kernel, by decide +kernel, by decide +kernel⟩
theorem tw543 : Cond.instanceMethod ⟨"RiverIfs", "resting", "()I"⟩ ∈ lw_good := lw_t (i := 543) (by decide +kernel) (by decide +kernel)
theorem tw544 : Cond.selects "RiverIfs" ⟨"RiverIfs", "resting", "()I"⟩ ⟨"RiverIfs", "resting", "()I"⟩ ∈ lw_good := lw_t (i := 544) (by decide +kernel) (by decide +kernel)
theorem tw542 : Cond.methodLink "RiverIfsLaw" 239 ⟨"RiverIfs", "resting", "()I"⟩ ∈ lw_good := lw_t (i := 542) (by decide +kernel) (by decide +kernel)
theorem cL_239 : CV RL 239 mX11_resting 0 11 := ⟨cmX11_resting _ _, _, _, _, rfl, tw542, tw543, tw544⟩
theorem tw1864 : Cond.code ⟨"RiverIfsModel", "resting", "()I"⟩ prog_14_method_87_code 3 (some .int) ∈ lw_good := lw_t (i := 1864) (by decide +kernel) (by decide +kernel)
theorem cmX12_resting (own : String) (idx : Nat) : CM own idx mX12_resting 0 := ⟨⟨by decide +kernel, rfl, by decide⟩, ⟨tw1864, tw13⟩, by decide +kernel, by decide +kernel, by decide +kernel⟩
theorem tw1862 : Cond.instanceMethod ⟨"RiverIfsModel", "resting", "()I"⟩ ∈ lw_good := lw_t (i := 1862) (by decide +kernel) (by decide +kernel)
theorem tw1863 : Cond.selects "RiverIfsModel" ⟨"RiverIfsModel", "resting", "()I"⟩ ⟨"RiverIfsModel", "resting", "()I"⟩ ∈ lw_good := lw_t (i := 1863) (by decide +kernel) (by decide +kernel)
theorem tw1861 : Cond.methodLink "RiverIfsLaw" 242 ⟨"RiverIfsModel", "resting", "()I"⟩ ∈ lw_good := lw_t (i := 1861) (by decide +kernel) (by decide +kernel)
theorem cL_242 : CV RL 242 mX12_resting 0 12 := ⟨cmX12_resting _ _, _, _, _, rfl, tw1861, tw1862, tw1863⟩
theorem tw1209 : Cond.codeWith ⟨"RiverIfsLaw", "sets", "(LRiverIfs;I[J)I"⟩ method_28_code 4 (some .int) [(0, 9, 12, 18)] ∈ lw_good := lw_t (i := 1209) (by decide +kernel) (by decide +kernel)
theorem tw1207 : Cond.methodLink "RiverIfsLaw" 243 ⟨"RiverIfsLaw", "sets", "(LRiverIfs;I[J)I"⟩ ∈ lw_good := lw_t (i := 1207) (by decide +kernel) (by decide +kernel)
theorem tw1208 : Cond.static ⟨"RiverIfsLaw", "sets", "(LRiverIfs;I[J)I"⟩ ∈ lw_good := lw_t (i := 1208) (by decide +kernel) (by decide +kernel)
theorem cL_243 : CSH RL 243 mL_sets 3 := ⟨⟨by decide +kernel, by decide⟩, ⟨tw1209, tw0⟩, ⟨by decide +kernel, by decide +kernel, by decide +kernel⟩, tw1207, tw1208⟩
theorem tw1868 : Cond.code ⟨"RiverIfsModel", "sets", "(I)I"⟩ prog_14_method_88_code 4 (some .int) ∈ lw_good := lw_t (i := 1868) (by decide +kernel) (by decide +kernel)
theorem cmX12_sets (own : String) (idx : Nat) : CM own idx mX12_sets 1 := ⟨⟨by decide +kernel, rfl, by decide⟩, ⟨tw1868, tw13⟩, by decide +kernel, by decide +kernel, by decide +kernel⟩
theorem tw1866 : Cond.instanceMethod ⟨"RiverIfsModel", "sets", "(I)I"⟩ ∈ lw_good := lw_t (i := 1866) (by decide +kernel) (by decide +kernel)
theorem tw1867 : Cond.selects "RiverIfsModel" ⟨"RiverIfsModel", "sets", "(I)I"⟩ ⟨"RiverIfsModel", "sets", "(I)I"⟩ ∈ lw_good := lw_t (i := 1867) (by decide +kernel) (by decide +kernel)
theorem tw1865 : Cond.methodLink "RiverIfsLaw" 245 ⟨"RiverIfsModel", "sets", "(I)I"⟩ ∈ lw_good := lw_t (i := 1865) (by decide +kernel) (by decide +kernel)
theorem cL_245 : CV RL 245 mX12_sets 1 12 := ⟨cmX12_sets _ _, _, _, _, rfl, tw1865, tw1866, tw1867⟩
theorem tw1220 : Cond.codeWith ⟨"RiverIfsLaw", "toDeny", "(LRiverIfs;II[J)I"⟩ method_29_code 5 (some .int) [(0, 10, 13, 18), (0, 10, 17, 13)] ∈ lw_good := lw_t (i := 1220) (by decide +kernel) (by decide +kernel)
theorem tw1218 : Cond.methodLink "RiverIfsLaw" 246 ⟨"RiverIfsLaw", "toDeny", "(LRiverIfs;II[J)I"⟩ ∈ lw_good := lw_t (i := 1218) (by decide +kernel) (by decide +kernel)
theorem tw1219 : Cond.static ⟨"RiverIfsLaw", "toDeny", "(LRiverIfs;II[J)I"⟩ ∈ lw_good := lw_t (i := 1219) (by decide +kernel) (by decide +kernel)
theorem cL_246 : CSH RL 246 mL_toDeny 4 := ⟨⟨by decide +kernel, by decide⟩, ⟨tw1220, tw0⟩, ⟨by decide +kernel, by decide +kernel, by decide +kernel⟩, tw1218, tw1219⟩
theorem tw1872 : Cond.code ⟨"RiverIfsModel", "toDeny", "(II)I"⟩ prog_14_method_89_code 6 (some .int) ∈ lw_good := lw_t (i := 1872) (by decide +kernel) (by decide +kernel)
theorem cmX12_toDeny (own : String) (idx : Nat) : CM own idx mX12_toDeny 2 := ⟨⟨by decide +kernel, rfl, by decide⟩, ⟨tw1872, tw13⟩, by decide +kernel, by decide +kernel, by decide +kernel⟩
theorem tw1870 : Cond.instanceMethod ⟨"RiverIfsModel", "toDeny", "(II)I"⟩ ∈ lw_good := lw_t (i := 1870) (by decide +kernel) (by decide +kernel)
theorem tw1871 : Cond.selects "RiverIfsModel" ⟨"RiverIfsModel", "toDeny", "(II)I"⟩ ⟨"RiverIfsModel", "toDeny", "(II)I"⟩ ∈ lw_good := lw_t (i := 1871) (by decide +kernel) (by decide +kernel)
theorem tw1869 : Cond.methodLink "RiverIfsLaw" 248 ⟨"RiverIfsModel", "toDeny", "(II)I"⟩ ∈ lw_good := lw_t (i := 1869) (by decide +kernel) (by decide +kernel)
theorem cL_248 : CV RL 248 mX12_toDeny 2 12 := ⟨cmX12_toDeny _ _, _, _, _, rfl, tw1869, tw1870, tw1871⟩
theorem tw1227 : Cond.codeWith ⟨"RiverIfsLaw", "sources", "(LRiverIfs;I[J)I"⟩ method_30_code 4 (some .int) [(0, 9, 12, 18)] ∈ lw_good := lw_t (i := 1227) (by decide +kernel) (by decide +kernel)
theorem tw1225 : Cond.methodLink "RiverIfsLaw" 249 ⟨"RiverIfsLaw", "sources", "(LRiverIfs;I[J)I"⟩ ∈ lw_good := lw_t (i := 1225) (by decide +kernel) (by decide +kernel)
theorem tw1226 : Cond.static ⟨"RiverIfsLaw", "sources", "(LRiverIfs;I[J)I"⟩ ∈ lw_good := lw_t (i := 1226) (by decide +kernel) (by decide +kernel)
theorem cL_249 : CSH RL 249 mL_sources 3 := ⟨⟨by decide +kernel, by decide⟩, ⟨tw1227, tw0⟩, ⟨by decide +kernel, by decide +kernel, by decide +kernel⟩, tw1225, tw1226⟩
theorem tw1860 : Cond.code ⟨"RiverIfsModel", "sources", "(I)I"⟩ prog_14_method_86_code 4 (some .int) ∈ lw_good := lw_t (i := 1860) (by decide +kernel) (by decide +kernel)
theorem cmX12_sources (own : String) (idx : Nat) : CM own idx mX12_sources 1 := ⟨⟨by decide +kernel, rfl, by decide⟩, ⟨tw1860, tw13⟩, by decide +kernel, by decide +kernel, by decide +kernel⟩
theorem tw1858 : Cond.instanceMethod ⟨"RiverIfsModel", "sources", "(I)I"⟩ ∈ lw_good := lw_t (i := 1858) (by decide +kernel) (by decide +kernel)
theorem tw1859 : Cond.selects "RiverIfsModel" ⟨"RiverIfsModel", "sources", "(I)I"⟩ ⟨"RiverIfsModel", "sources", "(I)I"⟩ ∈ lw_good := lw_t (i := 1859) (by decide +kernel) (by decide +kernel)
theorem tw1857 : Cond.methodLink "RiverIfsLaw" 251 ⟨"RiverIfsModel", "sources", "(I)I"⟩ ∈ lw_good := lw_t (i := 1857) (by decide +kernel) (by decide +kernel)
theorem cL_251 : CV RL 251 mX12_sources 1 12 := ⟨cmX12_sources _ _, _, _, _, rfl, tw1857, tw1858, tw1859⟩
theorem tw1234 : Cond.codeWith ⟨"RiverIfsLaw", "times", "(LRiverIfs;II[J)I"⟩ method_31_code 5 (some .int) [(0, 10, 13, 18), (0, 10, 17, 13)] ∈ lw_good := lw_t (i := 1234) (by decide +kernel) (by decide +kernel)
theorem tw1232 : Cond.methodLink "RiverIfsLaw" 252 ⟨"RiverIfsLaw", "times", "(LRiverIfs;II[J)I"⟩ ∈ lw_good := lw_t (i := 1232) (by decide +kernel) (by decide +kernel)
theorem tw1233 : Cond.static ⟨"RiverIfsLaw", "times", "(LRiverIfs;II[J)I"⟩ ∈ lw_good := lw_t (i := 1233) (by decide +kernel) (by decide +kernel)
theorem cL_252 : CSH RL 252 mL_times 4 := ⟨⟨by decide +kernel, by decide⟩, ⟨tw1234, tw0⟩, ⟨by decide +kernel, by decide +kernel, by decide +kernel⟩, tw1232, tw1233⟩
theorem tw1820 : Cond.code ⟨"RiverIfsModel", "times", "(II)I"⟩ prog_14_method_77_code 5 (some .int) ∈ lw_good := lw_t (i := 1820) (by decide +kernel) (by decide +kernel)
theorem cmX12_times (own : String) (idx : Nat) : CM own idx mX12_times 2 := ⟨⟨by decide +kernel, rfl, by decide⟩, ⟨tw1820, tw13⟩, by decide +kernel, by decide +kernel, by decide +kernel⟩
theorem tw1818 : Cond.instanceMethod ⟨"RiverIfsModel", "times", "(II)I"⟩ ∈ lw_good := lw_t (i := 1818) (by decide +kernel) (by decide +kernel)
theorem tw1819 : Cond.selects "RiverIfsModel" ⟨"RiverIfsModel", "times", "(II)I"⟩ ⟨"RiverIfsModel", "times", "(II)I"⟩ ∈ lw_good := lw_t (i := 1819) (by decide +kernel) (by decide +kernel)
theorem tw1817 : Cond.methodLink "RiverIfsLaw" 254 ⟨"RiverIfsModel", "times", "(II)I"⟩ ∈ lw_good := lw_t (i := 1817) (by decide +kernel) (by decide +kernel)
theorem cL_254 : CV RL 254 mX12_times 2 12 := ⟨cmX12_times _ _, _, _, _, rfl, tw1817, tw1818, tw1819⟩
theorem tw1241 : Cond.codeWith ⟨"RiverIfsLaw", "fullest", "(LRiverIfs;II[J)I"⟩ method_32_code 5 (some .int) [(0, 10, 13, 18), (0, 10, 17, 13)] ∈ lw_good := lw_t (i := 1241) (by decide +kernel) (by decide +kernel)
theorem tw1239 : Cond.methodLink "RiverIfsLaw" 255 ⟨"RiverIfsLaw", "fullest", "(LRiverIfs;II[J)I"⟩ ∈ lw_good := lw_t (i := 1239) (by decide +kernel) (by decide +kernel)
theorem tw1240 : Cond.static ⟨"RiverIfsLaw", "fullest", "(LRiverIfs;II[J)I"⟩ ∈ lw_good := lw_t (i := 1240) (by decide +kernel) (by decide +kernel)
theorem cL_255 : CSH RL 255 mL_fullest 4 := ⟨⟨by decide +kernel, by decide⟩, ⟨tw1241, tw0⟩, ⟨by decide +kernel, by decide +kernel, by decide +kernel⟩, tw1239, tw1240⟩
theorem tw1824 : Cond.code ⟨"RiverIfsModel", "fullest", "(II)I"⟩ prog_14_method_78_code 6 (some .int) ∈ lw_good := lw_t (i := 1824) (by decide +kernel) (by decide +kernel)
theorem cmX12_fullest (own : String) (idx : Nat) : CM own idx mX12_fullest 2 := ⟨⟨by decide +kernel, rfl, by decide⟩, ⟨tw1824, tw13⟩, by decide +kernel, by decide +kernel, by decide +kernel⟩
theorem tw1822 : Cond.instanceMethod ⟨"RiverIfsModel", "fullest", "(II)I"⟩ ∈ lw_good := lw_t (i := 1822) (by decide +kernel) (by decide +kernel)
theorem tw1823 : Cond.selects "RiverIfsModel" ⟨"RiverIfsModel", "fullest", "(II)I"⟩ ⟨"RiverIfsModel", "fullest", "(II)I"⟩ ∈ lw_good := lw_t (i := 1823) (by decide +kernel) (by decide +kernel)
theorem tw1821 : Cond.methodLink "RiverIfsLaw" 257 ⟨"RiverIfsModel", "fullest", "(II)I"⟩ ∈ lw_good := lw_t (i := 1821) (by decide +kernel) (by decide +kernel)
theorem cL_257 : CV RL 257 mX12_fullest 2 12 := ⟨cmX12_fullest _ _, _, _, _, rfl, tw1821, tw1822, tw1823⟩
theorem tw1248 : Cond.codeWith ⟨"RiverIfsLaw", "see", "(LRiverIfs;IIZ[J)I"⟩ method_33_code 6 (some .int) [(0, 12, 15, 18)] ∈ lw_good := lw_t (i := 1248) (by decide +kernel) (by decide +kernel)
theorem tw1246 : Cond.methodLink "RiverIfsLaw" 258 ⟨"RiverIfsLaw", "see", "(LRiverIfs;IIZ[J)I"⟩ ∈ lw_good := lw_t (i := 1246) (by decide +kernel) (by decide +kernel)
theorem tw1247 : Cond.static ⟨"RiverIfsLaw", "see", "(LRiverIfs;IIZ[J)I"⟩ ∈ lw_good := lw_t (i := 1247) (by decide +kernel) (by decide +kernel)
theorem cL_258 : CSH RL 258 mL_see 5 := ⟨⟨by decide +kernel, by decide⟩, ⟨tw1248, tw0⟩, ⟨by decide +kernel, by decide +kernel, by decide +kernel⟩, tw1246, tw1247⟩
theorem tw1913 : Cond.code ⟨"RiverIfsModel", "see", "(IIZ)I"⟩ prog_14_method_99_code 4 (some .int) ∈ lw_good := lw_t (i := 1913) (by decide +kernel) (by decide +kernel)
theorem cmX12_see (own : String) (idx : Nat) : CM own idx mX12_see 3 := ⟨⟨by decide +kernel, rfl, by decide⟩, ⟨tw1913, tw13⟩, by decide +kernel, by decide +kernel, by decide +kernel⟩
theorem tw1911 : Cond.instanceMethod ⟨"RiverIfsModel", "see", "(IIZ)I"⟩ ∈ lw_good := lw_t (i := 1911) (by decide +kernel) (by decide +kernel)
theorem tw1912 : Cond.selects "RiverIfsModel" ⟨"RiverIfsModel", "see", "(IIZ)I"⟩ ⟨"RiverIfsModel", "see", "(IIZ)I"⟩ ∈ lw_good := lw_t (i := 1912) (by decide +kernel) (by decide +kernel)
theorem tw1910 : Cond.methodLink "RiverIfsLaw" 260 ⟨"RiverIfsModel", "see", "(IIZ)I"⟩ ∈ lw_good := lw_t (i := 1910) (by decide +kernel) (by decide +kernel)
theorem cL_260 : CV RL 260 mX12_see 3 12 := ⟨cmX12_see _ _, _, _, _, rfl, tw1910, tw1911, tw1912⟩
theorem tw1259 : Cond.codeWith ⟨"RiverIfsLaw", "tells", "(LRiverIfs;I[J)I"⟩ method_34_code 4 (some .int) [(0, 9, 12, 18)] ∈ lw_good := lw_t (i := 1259) (by decide +kernel) (by decide +kernel)
theorem tw1257 : Cond.methodLink "RiverIfsLaw" 261 ⟨"RiverIfsLaw", "tells", "(LRiverIfs;I[J)I"⟩ ∈ lw_good := lw_t (i := 1257) (by decide +kernel) (by decide +kernel)
theorem tw1258 : Cond.static ⟨"RiverIfsLaw", "tells", "(LRiverIfs;I[J)I"⟩ ∈ lw_good := lw_t (i := 1258) (by decide +kernel) (by decide +kernel)
theorem cL_261 : CSH RL 261 mL_tells 3 := ⟨⟨by decide +kernel, by decide⟩, ⟨tw1259, tw0⟩, ⟨by decide +kernel, by decide +kernel, by decide +kernel⟩, tw1257, tw1258⟩
theorem tw1917 : Cond.code ⟨"RiverIfsModel", "tells", "(I)I"⟩ prog_14_method_102_code 2 (some .int) ∈ lw_good := lw_t (i := 1917) (by decide +kernel) (by decide +kernel)
theorem cmX12_tells (own : String) (idx : Nat) : CM own idx mX12_tells 1 := ⟨⟨by decide +kernel, rfl, by decide⟩, ⟨tw1917, tw13⟩, by decide +kernel, by decide +kernel, by decide +kernel⟩
theorem tw1915 : Cond.instanceMethod ⟨"RiverIfsModel", "tells", "(I)I"⟩ ∈ lw_good := lw_t (i := 1915) (by decide +kernel) (by decide +kernel)
theorem tw1916 : Cond.selects "RiverIfsModel" ⟨"RiverIfsModel", "tells", "(I)I"⟩ ⟨"RiverIfsModel", "tells", "(I)I"⟩ ∈ lw_good := lw_t (i := 1916) (by decide +kernel) (by decide +kernel)
theorem tw1914 : Cond.methodLink "RiverIfsLaw" 263 ⟨"RiverIfsModel", "tells", "(I)I"⟩ ∈ lw_good := lw_t (i := 1914) (by decide +kernel) (by decide +kernel)
theorem cL_263 : CV RL 263 mX12_tells 1 12 := ⟨cmX12_tells _ _, _, _, _, rfl, tw1914, tw1915, tw1916⟩
theorem tw1275 : Cond.codeWith ⟨"RiverIfsLaw", "look", "(LRiverIfs;II[J)I"⟩ method_35_code 5 (some .int) [(0, 10, 13, 18)] ∈ lw_good := lw_t (i := 1275) (by decide +kernel) (by decide +kernel)
theorem tw1273 : Cond.methodLink "RiverIfsLaw" 264 ⟨"RiverIfsLaw", "look", "(LRiverIfs;II[J)I"⟩ ∈ lw_good := lw_t (i := 1273) (by decide +kernel) (by decide +kernel)
theorem tw1274 : Cond.static ⟨"RiverIfsLaw", "look", "(LRiverIfs;II[J)I"⟩ ∈ lw_good := lw_t (i := 1274) (by decide +kernel) (by decide +kernel)
theorem cL_264 : CSH RL 264 mL_look 4 := ⟨⟨by decide +kernel, by decide⟩, ⟨tw1275, tw0⟩, ⟨by decide +kernel, by decide +kernel, by decide +kernel⟩, tw1273, tw1274⟩
theorem tw1929 : Cond.code ⟨"RiverIfsModel", "look", "(II)I"⟩ prog_14_method_103_code 9 (some .int) ∈ lw_good := lw_t (i := 1929) (by decide +kernel) (by decide +kernel)
theorem cmX12_look (own : String) (idx : Nat) : CM own idx mX12_look 2 := ⟨⟨by decide +kernel, rfl, by decide⟩, ⟨tw1929, tw13⟩, by decide +kernel, by decide +kernel, by decide +kernel⟩
theorem tw1927 : Cond.instanceMethod ⟨"RiverIfsModel", "look", "(II)I"⟩ ∈ lw_good := lw_t (i := 1927) (by decide +kernel) (by decide +kernel)
theorem tw1928 : Cond.selects "RiverIfsModel" ⟨"RiverIfsModel", "look", "(II)I"⟩ ⟨"RiverIfsModel", "look", "(II)I"⟩ ∈ lw_good := lw_t (i := 1928) (by decide +kernel) (by decide +kernel)
theorem tw1926 : Cond.methodLink "RiverIfsLaw" 266 ⟨"RiverIfsModel", "look", "(II)I"⟩ ∈ lw_good := lw_t (i := 1926) (by decide +kernel) (by decide +kernel)
theorem cL_266 : CV RL 266 mX12_look 2 12 := ⟨cmX12_look _ _, _, _, _, rfl, tw1926, tw1927, tw1928⟩
theorem tw555 : Cond.code ⟨"RiverIfs", "forget", "()V"⟩ prog_1_method_46_code 1 (none) ∈ lw_good := lw_t (i := 555) (by decide +kernel) (by decide +kernel)
theorem cmX11_forget (own : String) (idx : Nat) : CM own idx mX11_forget 0 := ⟨⟨by decide +kernel, rfl, by decide⟩, ⟨tw555, tw1⟩, by decide +kernel, by decide +kernel, by decide +kernel⟩
theorem tw553 : Cond.instanceMethod ⟨"RiverIfs", "forget", "()V"⟩ ∈ lw_good := lw_t (i := 553) (by decide +kernel) (by decide +kernel)
theorem tw554 : Cond.selects "RiverIfs" ⟨"RiverIfs", "forget", "()V"⟩ ⟨"RiverIfs", "forget", "()V"⟩ ∈ lw_good := lw_t (i := 554) (by decide +kernel) (by decide +kernel)
theorem tw552 : Cond.methodLink "RiverIfsLaw" 267 ⟨"RiverIfs", "forget", "()V"⟩ ∈ lw_good := lw_t (i := 552) (by decide +kernel) (by decide +kernel)
theorem cL_267 : CV RL 267 mX11_forget 0 11 := ⟨cmX11_forget _ _, _, _, _, rfl, tw552, tw553, tw554⟩
theorem tw1933 : Cond.code ⟨"RiverIfsModel", "forget", "()V"⟩ prog_14_method_104_code 1 (none) ∈ lw_good := lw_t (i := 1933) (by decide +kernel) (by decide +kernel)
theorem cmX12_forget (own : String) (idx : Nat) : CM own idx mX12_forget 0 := ⟨⟨by decide +kernel, rfl, by decide⟩, ⟨tw1933, tw13⟩, by decide +kernel, by decide +kernel, by decide +kernel⟩
theorem tw1931 : Cond.instanceMethod ⟨"RiverIfsModel", "forget", "()V"⟩ ∈ lw_good := lw_t (i := 1931) (by decide +kernel) (by decide +kernel)
theorem tw1932 : Cond.selects "RiverIfsModel" ⟨"RiverIfsModel", "forget", "()V"⟩ ⟨"RiverIfsModel", "forget", "()V"⟩ ∈ lw_good := lw_t (i := 1932) (by decide +kernel) (by decide +kernel)
theorem tw1930 : Cond.methodLink "RiverIfsLaw" 270 ⟨"RiverIfsModel", "forget", "()V"⟩ ∈ lw_good := lw_t (i := 1930) (by decide +kernel) (by decide +kernel)
theorem cL_270 : CV RL 270 mX12_forget 0 12 := ⟨cmX12_forget _ _, _, _, _, rfl, tw1930, tw1931, tw1932⟩
theorem tw1287 : Cond.codeWith ⟨"RiverIfsLaw", "game", "(LRiverIfs;III[J)I"⟩ method_36_code 6 (some .int) [(0, 12, 15, 18), (0, 12, 19, 13)] ∈ lw_good := lw_t (i := 1287) (by decide +kernel) (by decide +kernel)
theorem tw1285 : Cond.methodLink "RiverIfsLaw" 271 ⟨"RiverIfsLaw", "game", "(LRiverIfs;III[J)I"⟩ ∈ lw_good := lw_t (i := 1285) (by decide +kernel) (by decide +kernel)
theorem tw1286 : Cond.static ⟨"RiverIfsLaw", "game", "(LRiverIfs;III[J)I"⟩ ∈ lw_good := lw_t (i := 1286) (by decide +kernel) (by decide +kernel)
theorem cL_271 : CSH RL 271 mL_game 5 := ⟨⟨by decide +kernel, by decide⟩, ⟨tw1287, tw0⟩, ⟨by decide +kernel, by decide +kernel, by decide +kernel⟩, tw1285, tw1286⟩
theorem tw1937 : Cond.code ⟨"RiverIfsModel", "game", "(III)I"⟩ prog_14_method_106_code 9 (some .int) ∈ lw_good := lw_t (i := 1937) (by decide +kernel) (by decide +kernel)
theorem cmX12_game (own : String) (idx : Nat) : CM own idx mX12_game 3 := ⟨⟨by decide +kernel, rfl, by decide⟩, ⟨tw1937, tw13⟩, by decide +kernel, by decide +kernel, by decide +kernel⟩
theorem tw1935 : Cond.instanceMethod ⟨"RiverIfsModel", "game", "(III)I"⟩ ∈ lw_good := lw_t (i := 1935) (by decide +kernel) (by decide +kernel)
theorem tw1936 : Cond.selects "RiverIfsModel" ⟨"RiverIfsModel", "game", "(III)I"⟩ ⟨"RiverIfsModel", "game", "(III)I"⟩ ∈ lw_good := lw_t (i := 1936) (by decide +kernel) (by decide +kernel)
theorem tw1934 : Cond.methodLink "RiverIfsLaw" 273 ⟨"RiverIfsModel", "game", "(III)I"⟩ ∈ lw_good := lw_t (i := 1934) (by decide +kernel) (by decide +kernel)
theorem cL_273 : CV RL 273 mX12_game 3 12 := ⟨cmX12_game _ _, _, _, _, rfl, tw1934, tw1935, tw1936⟩
theorem tw1302 : Cond.codeWith ⟨"RiverIfsLaw", "years", "(LRiverIfs;III[J)I"⟩ method_37_code 6 (some .int) [(0, 12, 15, 18), (0, 12, 19, 13)] ∈ lw_good := lw_t (i := 1302) (by decide +kernel) (by decide +kernel)
theorem tw1300 : Cond.methodLink "RiverIfsLaw" 274 ⟨"RiverIfsLaw", "years", "(LRiverIfs;III[J)I"⟩ ∈ lw_good := lw_t (i := 1300) (by decide +kernel) (by decide +kernel)
theorem tw1301 : Cond.static ⟨"RiverIfsLaw", "years", "(LRiverIfs;III[J)I"⟩ ∈ lw_good := lw_t (i := 1301) (by decide +kernel) (by decide +kernel)
theorem cL_274 : CSH RL 274 mL_years 5 := ⟨⟨by decide +kernel, by decide⟩, ⟨tw1302, tw0⟩, ⟨by decide +kernel, by decide +kernel, by decide +kernel⟩, tw1300, tw1301⟩
theorem tw1945 : Cond.code ⟨"RiverIfsModel", "years", "(III)I"⟩ prog_14_method_109_code 7 (some .int) ∈ lw_good := lw_t (i := 1945) (by decide +kernel) (by decide +kernel)
theorem cmX12_years (own : String) (idx : Nat) : CM own idx mX12_years 3 := ⟨⟨by decide +kernel, rfl, by decide⟩, ⟨tw1945, tw13⟩, by decide +kernel, by decide +kernel, by decide +kernel⟩
theorem tw1943 : Cond.instanceMethod ⟨"RiverIfsModel", "years", "(III)I"⟩ ∈ lw_good := lw_t (i := 1943) (by decide +kernel) (by decide +kernel)
theorem tw1944 : Cond.selects "RiverIfsModel" ⟨"RiverIfsModel", "years", "(III)I"⟩ ⟨"RiverIfsModel", "years", "(III)I"⟩ ∈ lw_good := lw_t (i := 1944) (by decide +kernel) (by decide +kernel)
theorem tw1942 : Cond.methodLink "RiverIfsLaw" 276 ⟨"RiverIfsModel", "years", "(III)I"⟩ ∈ lw_good := lw_t (i := 1942) (by decide +kernel) (by decide +kernel)
theorem cL_276 : CV RL 276 mX12_years 3 12 := ⟨cmX12_years _ _, _, _, _, rfl, tw1942, tw1943, tw1944⟩
theorem tw563 : Cond.code ⟨"RiverIfs", "image", "()V"⟩ prog_1_method_57_code 1 (none) ∈ lw_good := lw_t (i := 563) (by decide +kernel) (by decide +kernel)
theorem cmX11_image (own : String) (idx : Nat) : CM own idx mX11_image 0 := ⟨⟨by decide +kernel, rfl, by decide⟩, ⟨tw563, tw1⟩, by decide +kernel, by decide +kernel, by decide +kernel⟩
theorem tw561 : Cond.instanceMethod ⟨"RiverIfs", "image", "()V"⟩ ∈ lw_good := lw_t (i := 561) (by decide +kernel) (by decide +kernel)
theorem tw562 : Cond.selects "RiverIfs" ⟨"RiverIfs", "image", "()V"⟩ ⟨"RiverIfs", "image", "()V"⟩ ∈ lw_good := lw_t (i := 562) (by decide +kernel) (by decide +kernel)
theorem tw560 : Cond.methodLink "RiverIfsLaw" 277 ⟨"RiverIfs", "image", "()V"⟩ ∈ lw_good := lw_t (i := 560) (by decide +kernel) (by decide +kernel)
theorem cL_277 : CV RL 277 mX11_image 0 11 := ⟨cmX11_image _ _, _, _, _, rfl, tw560, tw561, tw562⟩
theorem tw1958 : Cond.code ⟨"RiverIfsModel", "image", "()V"⟩ prog_14_method_111_code 2 (none) ∈ lw_good := lw_t (i := 1958) (by decide +kernel) (by decide +kernel)
theorem cmX12_image (own : String) (idx : Nat) : CM own idx mX12_image 0 := ⟨⟨by decide +kernel, rfl, by decide⟩, ⟨tw1958, tw13⟩, by decide +kernel, by decide +kernel, by decide +kernel⟩
theorem tw1956 : Cond.instanceMethod ⟨"RiverIfsModel", "image", "()V"⟩ ∈ lw_good := lw_t (i := 1956) (by decide +kernel) (by decide +kernel)
theorem tw1957 : Cond.selects "RiverIfsModel" ⟨"RiverIfsModel", "image", "()V"⟩ ⟨"RiverIfsModel", "image", "()V"⟩ ∈ lw_good := lw_t (i := 1957) (by decide +kernel) (by decide +kernel)
theorem tw1955 : Cond.methodLink "RiverIfsLaw" 280 ⟨"RiverIfsModel", "image", "()V"⟩ ∈ lw_good := lw_t (i := 1955) (by decide +kernel) (by decide +kernel)
theorem cL_280 : CV RL 280 mX12_image 0 12 := ⟨cmX12_image _ _, _, _, _, rfl, tw1955, tw1956, tw1957⟩
theorem tw578 : Cond.code ⟨"RiverIfs", "restore", "()Z"⟩ prog_1_method_58_code 1 (some .boolean) ∈ lw_good := lw_t (i := 578) (by decide +kernel) (by decide +kernel)
theorem cmX11_restore (own : String) (idx : Nat) : CM own idx mX11_restore 0 := ⟨⟨by decide +kernel, rfl, by decide⟩, ⟨tw578, tw1⟩, by decide +kernel, by decide +kernel, by decide +kernel⟩
theorem tw576 : Cond.instanceMethod ⟨"RiverIfs", "restore", "()Z"⟩ ∈ lw_good := lw_t (i := 576) (by decide +kernel) (by decide +kernel)
theorem tw577 : Cond.selects "RiverIfs" ⟨"RiverIfs", "restore", "()Z"⟩ ⟨"RiverIfs", "restore", "()Z"⟩ ∈ lw_good := lw_t (i := 577) (by decide +kernel) (by decide +kernel)
theorem tw575 : Cond.methodLink "RiverIfsLaw" 281 ⟨"RiverIfs", "restore", "()Z"⟩ ∈ lw_good := lw_t (i := 575) (by decide +kernel) (by decide +kernel)
theorem cL_281 : CV RL 281 mX11_restore 0 11 := ⟨cmX11_restore _ _, _, _, _, rfl, tw575, tw576, tw577⟩
theorem tw1965 : Cond.code ⟨"RiverIfsModel", "restore", "()Z"⟩ prog_14_method_112_code 2 (some .boolean) ∈ lw_good := lw_t (i := 1965) (by decide +kernel) (by decide +kernel)
theorem cmX12_restore (own : String) (idx : Nat) : CM own idx mX12_restore 0 := ⟨⟨by decide +kernel, rfl, by decide⟩, ⟨tw1965, tw13⟩, by decide +kernel, by decide +kernel, by decide +kernel⟩
theorem tw1963 : Cond.instanceMethod ⟨"RiverIfsModel", "restore", "()Z"⟩ ∈ lw_good := lw_t (i := 1963) (by decide +kernel) (by decide +kernel)
theorem tw1964 : Cond.selects "RiverIfsModel" ⟨"RiverIfsModel", "restore", "()Z"⟩ ⟨"RiverIfsModel", "restore", "()Z"⟩ ∈ lw_good := lw_t (i := 1964) (by decide +kernel) (by decide +kernel)
theorem tw1962 : Cond.methodLink "RiverIfsLaw" 285 ⟨"RiverIfsModel", "restore", "()Z"⟩ ∈ lw_good := lw_t (i := 1962) (by decide +kernel) (by decide +kernel)
theorem cL_285 : CV RL 285 mX12_restore 0 12 := ⟨cmX12_restore _ _, _, _, _, rfl, tw1962, tw1963, tw1964⟩
