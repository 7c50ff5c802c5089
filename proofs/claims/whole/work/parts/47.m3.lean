/-! ===== the model: bits; led, leadsIn, ring, ends, idle, parting ===== -/
section M3
variable {G : xG} {d : Nat} {b : Nat} {S : Nat → Nat → Int32} {h0 h : xH}
theorem kb_c0 : ∀ k, k < 512 → kbL 12 (nI (0 + k)) 0 = some (bcI (nI (0 + k))) := by decide +kernel
theorem kb_c1 : ∀ k, k < 512 → kbL 12 (nI (512 + k)) 0 = some (bcI (nI (512 + k))) := by decide +kernel
theorem kb_c2 : ∀ k, k < 512 → kbL 12 (nI (1024 + k)) 0 = some (bcI (nI (1024 + k))) := by decide +kernel
theorem kb_c3 : ∀ k, k < 512 → kbL 12 (nI (1536 + k)) 0 = some (bcI (nI (1536 + k))) := by decide +kernel
theorem kb_c4 : ∀ k, k < 512 → kbL 12 (nI (2048 + k)) 0 = some (bcI (nI (2048 + k))) := by decide +kernel
theorem kb_c5 : ∀ k, k < 512 → kbL 12 (nI (2560 + k)) 0 = some (bcI (nI (2560 + k))) := by decide +kernel
theorem kb_c6 : ∀ k, k < 512 → kbL 12 (nI (3072 + k)) 0 = some (bcI (nI (3072 + k))) := by decide +kernel
theorem kb_c7 : ∀ k, k < 512 → kbL 12 (nI (3584 + k)) 0 = some (bcI (nI (3584 + k))) := by decide +kernel
theorem kb_ok {k : Nat} (hk : k < 4096) : kbL 12 (nI k) 0 = some (bcI (nI k)) := by
  have e : k = k / 512 * 512 + k % 512 := by omega
  have h2 : k % 512 < 512 := Nat.mod_lt _ (by decide)
  rcases (show k / 512 = 0 ∨ k / 512 = 1 ∨ k / 512 = 2 ∨ k / 512 = 3 ∨ k / 512 = 4 ∨ k / 512 = 5 ∨ k / 512 = 6 ∨ k / 512 = 7 by omega) with q | q | q | q | q | q | q | q <;> rw [q] at e <;> rw [e]
  · exact kb_c0 _ h2
  · exact kb_c1 _ h2
  · exact kb_c2 _ h2
  · exact kb_c3 _ h2
  · exact kb_c4 _ h2
  · exact kb_c5 _ h2
  · exact kb_c6 _ h2
  · exact kb_c7 _ h2
theorem X12_bitsOf {k : Nat} (hk : k < 4096) : VM G mX12_bitsOf d 0 0 [.int (nI k)] (xE (some (.int (bcI (nI k)))) h) h := X12_bitsOf0 12 (kb_ok hk)
theorem X12_bitsE {x : Int32} {k : Nat} (e : x = nI k) (hk : k < 4096) : VM G mX12_bitsOf d 0 0 [.int x] (xE (some (.int (bcI x))) h) h := by
  subst e
  exact X12_bitsOf hk
theorem X12_led {n : Nat} (hn : S 3 1 = nI n) (h12 : n ≤ 12) (t : Int32) (hd : 1 ≤ d) : VM G mX12_led d 0 0 [.ref (b + 0), .int t] (xE (some (.int (ledF (S 10) (S 12) (S 0 34) t n 0 0))) (wH G b tbM S h0)) (wH G b tbM S h0) := by
  refine VM_start (ls := [some (.ref (b + 0)), some (.int t), none, none]) rfl ?_
  -- %m X12_led
  refine V_iconst (pc := 0) (v := 0) dX12_led_0 (by decide) ?_
  refine V_istore_n (pc := 1) (i := 2) dX12_led_1 rfl (by decide) rfl ?_
  refine V_iconst (pc := 2) (v := 0) dX12_led_2 (by decide) ?_
  refine V_istore_n (pc := 3) (i := 3) dX12_led_3 rfl (by decide) rfl ?_
  have loop : ∀ (m i : Nat) (x : Int32), m + i = n → V G mX12_led d 0 0 (xE (some (.int (ledF (S 10) (S 12) (S 0 34) t m i x))) (wH G b tbM S h0)) 4 [some (.ref (b + 0)), some (.int t), some (.int x), some (.int (nI i))] [] (wH G b tbM S h0) := by
    intro m
    induction m with
    | zero =>
      intro i x hm
      refine V_iload_n (pc := 4) (i := 3) dX12_led_4 rfl rfl ?_
      refine V_aload_n (pc := 5) (i := 0) dX12_led_5 rfl rfl ?_
      refine VW_getR (pc := 6) dX12_led_6 fX12_36 (by first | assumption | rfl) rfl ?_
      refine V_iconst (pc := 9) (v := 1) dX12_led_9 (by decide) ?_
      refine VW_ialdN (pc := 10) dX12_led_10 (by first | assumption | rfl) (j := 1) rfl (by decide) (by first | decide | omega) ?_
      refine V_icmp_ge (pc := 11) 57 dX12_led_11 rfl (fun c11 => ?_) (fun c11 => ?_)
      · refine V_iload_n (pc := 57) (i := 2) dX12_led_57 rfl rfl ?_
        exact VE_iret (pc := 58) dX12_led_58 rfl rfl rfl
      · exact absurd (by rw [hn, show i = n by omega]; exact nI_le (by omega) (by omega)) c11
    | succ m ih =>
      intro i x hm
      rw [ledF]
      refine V_iload_n (pc := 4) (i := 3) dX12_led_4 rfl rfl ?_
      refine V_aload_n (pc := 5) (i := 0) dX12_led_5 rfl rfl ?_
      refine VW_getR (pc := 6) dX12_led_6 fX12_36 (by first | assumption | rfl) rfl ?_
      refine V_iconst (pc := 9) (v := 1) dX12_led_9 (by decide) ?_
      refine VW_ialdN (pc := 10) dX12_led_10 (by first | assumption | rfl) (j := 1) rfl (by decide) (by first | decide | omega) ?_
      refine V_icmp_ge (pc := 11) 57 dX12_led_11 rfl (fun c11 => ?_) (fun c11 => ?_)
      · exact absurd c11 (by rw [hn]; exact nI_ge (by omega) (by omega))
      · refine V_iload_n (pc := 14) (i := 2) dX12_led_14 rfl rfl ?_
        refine V_aload_n (pc := 15) (i := 0) dX12_led_15 rfl rfl ?_
        refine VW_getI (pc := 16) dX12_led_16 fX12_304 (by first | assumption | rfl) rfl ?_
        refine V_iload_n (pc := 19) (i := 3) dX12_led_19 rfl rfl ?_
        refine V_S2i (pc := 20) dX12_led_20 cX12_263 (X12_isOf (d := 0) _ _) (Nat.le_of_ble_eq_true rfl) (by omega) (Nat.le_of_ble_eq_true rfl) ?_
        refine V_if_ne (pc := 23) 48 dX12_led_23 rfl (fun c23 => ?_) (fun c23 => ?_)
        · rw [if_neg (show ¬ (hasB (S 0 34) (nI i) = false ∧ ¬ S 10 i &&& t = 0) from fun q => by first | exact absurd q.1 (by rw [b2i_n0.mp c23]; decide) | exact q.2 c34)]
          refine V_iconst (pc := 48) (v := 0) dX12_led_48 (by decide) ?_
          refine V_ior (pc := 49) dX12_led_49 ?_
          (first | rw [Int32.or_zero] | skip)
          refine V_istore_n (pc := 50) (i := 2) dX12_led_50 rfl (by decide) rfl ?_
          refine V_iinc (pc := 51) dX12_led_51 (by decide) rfl rfl (iincN (n := 1) (by decide)) ?_
          refine V_goto (pc := 54) 4 dX12_led_54 rfl ?_
          exact ih (i + 1) _ (by omega)
        · refine V_aload_n (pc := 26) (i := 0) dX12_led_26 rfl rfl ?_
          refine VW_getR (pc := 27) dX12_led_27 fX12_58 (by first | assumption | rfl) rfl ?_
          refine V_iload_n (pc := 30) (i := 3) dX12_led_30 rfl rfl ?_
          refine VW_ialdN (pc := 31) dX12_led_31 (by first | assumption | rfl) rfl (by omega) (by first | decide | omega) ?_
          refine V_iload_n (pc := 32) (i := 1) dX12_led_32 rfl rfl ?_
          refine V_iand (pc := 33) dX12_led_33 ?_
          refine V_if_eq (pc := 34) 48 dX12_led_34 rfl (fun c34 => ?_) (fun c34 => ?_)
          · rw [if_neg (show ¬ (hasB (S 0 34) (nI i) = false ∧ ¬ S 10 i &&& t = 0) from fun q => by first | exact absurd q.1 (by rw [b2i_n0.mp c23]; decide) | exact q.2 c34)]
            refine V_iconst (pc := 48) (v := 0) dX12_led_48 (by decide) ?_
            refine V_ior (pc := 49) dX12_led_49 ?_
            (first | rw [Int32.or_zero] | skip)
            refine V_istore_n (pc := 50) (i := 2) dX12_led_50 rfl (by decide) rfl ?_
            refine V_iinc (pc := 51) dX12_led_51 (by decide) rfl rfl (iincN (n := 1) (by decide)) ?_
            refine V_goto (pc := 54) 4 dX12_led_54 rfl ?_
            exact ih (i + 1) _ (by omega)
          · rw [if_pos ⟨b2i_0.mp c23, c34⟩]
            refine V_iconst (pc := 37) (v := 1) dX12_led_37 (by decide) ?_
            refine V_aload_n (pc := 38) (i := 0) dX12_led_38 rfl rfl ?_
            refine VW_getR (pc := 39) dX12_led_39 fX12_64 (by first | assumption | rfl) rfl ?_
            refine V_iload_n (pc := 42) (i := 3) dX12_led_42 rfl rfl ?_
            refine VW_ialdN (pc := 43) dX12_led_43 (by first | assumption | rfl) rfl (by omega) (by first | decide | omega) ?_
            refine V_ishl (pc := 44) dX12_led_44 ?_
            refine V_goto (pc := 45) 49 dX12_led_45 rfl ?_
            refine V_ior (pc := 49) dX12_led_49 ?_
            (first | rw [Int32.or_zero] | skip)
            refine V_istore_n (pc := 50) (i := 2) dX12_led_50 rfl (by decide) rfl ?_
            refine V_iinc (pc := 51) dX12_led_51 (by decide) rfl rfl (iincN (n := 1) (by decide)) ?_
            refine V_goto (pc := 54) 4 dX12_led_54 rfl ?_
            exact ih (i + 1) _ (by omega)
  exact loop n 0 0 rfl
def mLed (S : Nat → Nat → Int32) (n : Nat) (x : Int32) : Int32 := ledF (S 10) (S 12) (S 0 34) x n 0 0
theorem X12_leadsIn {n : Nat} (hn : S 3 1 = nI n) (h12 : n ≤ 12) (t o : Int32) (hd : 2 ≤ d) : VM G mX12_leadsIn d 0 0 [.ref (b + 0), .int t, .int o] (xE (some (.int (stepF (mLed S n) o 10 1 (1 <<< (t &&& 31))))) (wH G b tbM S h0)) (wH G b tbM S h0) := by
  refine VM_start (ls := [some (.ref (b + 0)), some (.int t), some (.int o), none, none]) rfl ?_
  -- %m X12_leadsIn
  refine V_iconst (pc := 0) (v := 1) dX12_leadsIn_0 (by decide) ?_
  refine V_iload_n (pc := 1) (i := 1) dX12_leadsIn_1 rfl rfl ?_
  refine V_ishl (pc := 2) dX12_leadsIn_2 ?_
  refine V_istore_n (pc := 3) (i := 3) dX12_leadsIn_3 rfl (by decide) rfl ?_
  refine V_iconst (pc := 4) (v := 1) dX12_leadsIn_4 (by decide) ?_
  refine V_istore (pc := 5) dX12_leadsIn_5 (by decide) rfl ?_
  have loop : ∀ (m i : Nat) (x : Int32), m + i = 11 → V G mX12_leadsIn d 0 0 (xE (some (.int (stepF (mLed S n) o m i x))) (wH G b tbM S h0)) 7 [some (.ref (b + 0)), some (.int t), some (.int o), some (.int x), some (.int (nI i))] [] (wH G b tbM S h0) := by
    intro m
    induction m with
    | zero =>
      intro i x hm
      refine V_iload (pc := 7) dX12_leadsIn_7 rfl ?_
      refine V_bipush (pc := 9) (v := 10) dX12_leadsIn_9 (by decide) ?_
      refine V_icmp_gt (pc := 11) 37 dX12_leadsIn_11 rfl (fun c11 => ?_) (fun c11 => ?_)
      · refine V_iconst (pc := 37) (v := -1) dX12_leadsIn_37 (by decide) ?_
        exact VE_iret (pc := 38) dX12_leadsIn_38 rfl rfl rfl
      · exact absurd (by rw [show i = 11 by omega]; decide) c11
    | succ m ih =>
      intro i x hm
      rw [stepF]
      refine V_iload (pc := 7) dX12_leadsIn_7 rfl ?_
      refine V_bipush (pc := 9) (v := 10) dX12_leadsIn_9 (by decide) ?_
      refine V_icmp_gt (pc := 11) 37 dX12_leadsIn_11 rfl (fun c11 => ?_) (fun c11 => ?_)
      · exact absurd c11 (nI_nlt (a := 10) (by omega) (by decide))
      · refine V_aload_n (pc := 14) (i := 0) dX12_leadsIn_14 rfl rfl ?_
        refine V_iload_n (pc := 15) (i := 3) dX12_leadsIn_15 rfl rfl ?_
        refine V_V1i (pc := 16) dX12_leadsIn_16 cX12_363 (by first | assumption | rfl) (X12_led (d := 1) hn h12 _ (by omega)) (Nat.le_of_ble_eq_true rfl) (by omega) (Nat.le_of_ble_eq_true rfl) ?_
        refine V_istore_n (pc := 19) (i := 3) dX12_leadsIn_19 rfl (by decide) rfl ?_
        refine V_iload_n (pc := 20) (i := 3) dX12_leadsIn_20 rfl rfl ?_
        refine V_iload_n (pc := 21) (i := 2) dX12_leadsIn_21 rfl rfl ?_
        refine V_S2i (pc := 22) dX12_leadsIn_22 cX12_263 (X12_isOf (d := 0) _ _) (Nat.le_of_ble_eq_true rfl) (by omega) (Nat.le_of_ble_eq_true rfl) ?_
        refine V_if_eq (pc := 25) 31 dX12_leadsIn_25 rfl (fun c25 => ?_) (fun c25 => ?_)
        · rw [if_neg (show ¬ hasB (mLed S n x) o = true from by unfold mLed; rw [b2i_0.mp c25]; decide)]
          refine V_iinc (pc := 31) dX12_leadsIn_31 (by decide) rfl rfl (iincN (n := 1) (by decide)) ?_
          refine V_goto (pc := 34) 7 dX12_leadsIn_34 rfl ?_
          exact ih (i + 1) _ (by omega)
        · rw [if_pos (show hasB (mLed S n x) o = true from b2i_n0.mp c25)]
          refine V_iload (pc := 28) dX12_leadsIn_28 rfl ?_
          exact VE_iret (pc := 30) dX12_leadsIn_30 rfl rfl rfl
  exact loop 10 1 _ rfl
theorem X12_ring {n : Nat} (hn : S 3 1 = nI n) (h12 : n ≤ 12) (hd : 3 ≤ d) : VM G mX12_ring d 0 0 [.ref (b + 0)] (xE (some (.int (ringF (fun t => stepF (mLed S n) (nI t) 10 1 (1 <<< (nI t &&& 31))) 10 0 (-1)))) (wH G b tbM S h0)) (wH G b tbM S h0) := by
  refine VM_start (ls := [some (.ref (b + 0)), none, none, none]) rfl ?_
  -- %m X12_ring
  refine V_iconst (pc := 0) (v := -1) dX12_ring_0 (by decide) ?_
  refine V_istore_n (pc := 1) (i := 1) dX12_ring_1 rfl (by decide) rfl ?_
  refine V_iconst (pc := 2) (v := 0) dX12_ring_2 (by decide) ?_
  refine V_istore_n (pc := 3) (i := 2) dX12_ring_3 rfl (by decide) rfl ?_
  have loop : ∀ (m i : Nat) (x : Int32), m + i = 10 → V G mX12_ring d 0 0 (xE (some (.int (ringF (fun t => stepF (mLed S n) (nI t) 10 1 (1 <<< (nI t &&& 31))) m i x))) (wH G b tbM S h0)) 4 [some (.ref (b + 0)), some (.int x), some (.int (nI i)), none] [] (wH G b tbM S h0) := by
    intro m
    induction m with
    | zero =>
      intro i x hm
      refine V_iload_n (pc := 4) (i := 2) dX12_ring_4 rfl rfl ?_
      refine V_bipush (pc := 5) (v := 10) dX12_ring_5 (by decide) ?_
      refine V_icmp_ge (pc := 7) 40 dX12_ring_7 rfl (fun c7 => ?_) (fun c7 => ?_)
      · refine V_iload_n (pc := 40) (i := 1) dX12_ring_40 rfl rfl ?_
        exact VE_iret (pc := 41) dX12_ring_41 rfl rfl rfl
      · exact absurd (by rw [show i = 10 by omega]; decide) c7
    | succ m ih =>
      intro i x hm
      rw [ringF]
      refine V_iload_n (pc := 4) (i := 2) dX12_ring_4 rfl rfl ?_
      refine V_bipush (pc := 5) (v := 10) dX12_ring_5 (by decide) ?_
      refine V_icmp_ge (pc := 7) 40 dX12_ring_7 rfl (fun c7 => ?_) (fun c7 => ?_)
      · exact absurd c7 (nI_ge (b := 10) (by omega) (by decide))
      · refine V_aload_n (pc := 10) (i := 0) dX12_ring_10 rfl rfl ?_
        refine V_iload_n (pc := 11) (i := 2) dX12_ring_11 rfl rfl ?_
        refine V_iload_n (pc := 12) (i := 2) dX12_ring_12 rfl rfl ?_
        refine V_V2i (pc := 13) dX12_ring_13 cX12_366 (by first | assumption | rfl) (X12_leadsIn (d := 2) hn h12 _ _ (by omega)) (Nat.le_of_ble_eq_true rfl) (by omega) (Nat.le_of_ble_eq_true rfl) ?_
        refine V_istore_n (pc := 16) (i := 3) dX12_ring_16 rfl (by decide) rfl ?_
        refine V_iload_n (pc := 17) (i := 3) dX12_ring_17 rfl rfl ?_
        refine V_iconst (pc := 18) (v := -1) dX12_ring_18 (by decide) ?_
        refine V_icmp_eq (pc := 19) 34 dX12_ring_19 rfl (fun c19 => ?_) (fun c19 => ?_)
        · rw [if_neg (fun q => q.1 c19)]
          refine V_iinc (pc := 34) dX12_ring_34 (by decide) rfl rfl (iincN (n := 1) (by decide)) ?_
          refine V_goto (pc := 37) 4 dX12_ring_37 rfl ?_
          exact V_forget 3 (ih (i + 1) _ (by omega))
        · refine V_iload_n (pc := 22) (i := 1) dX12_ring_22 rfl rfl ?_
          refine V_iconst (pc := 23) (v := -1) dX12_ring_23 (by decide) ?_
          refine V_icmp_eq (pc := 24) 32 dX12_ring_24 rfl (fun c24 => ?_) (fun c24 => ?_)
          · rw [if_pos ⟨c19, Or.inl c24⟩]
            refine V_iload_n (pc := 32) (i := 3) dX12_ring_32 rfl rfl ?_
            refine V_istore_n (pc := 33) (i := 1) dX12_ring_33 rfl (by decide) rfl ?_
            refine V_iinc (pc := 34) dX12_ring_34 (by decide) rfl rfl (iincN (n := 1) (by decide)) ?_
            refine V_goto (pc := 37) 4 dX12_ring_37 rfl ?_
            exact V_forget 3 (ih (i + 1) _ (by omega))
          · refine V_iload_n (pc := 27) (i := 3) dX12_ring_27 rfl rfl ?_
            refine V_iload_n (pc := 28) (i := 1) dX12_ring_28 rfl rfl ?_
            refine V_icmp_ge (pc := 29) 34 dX12_ring_29 rfl (fun c29 => ?_) (fun c29 => ?_)
            · rw [if_neg (fun q => q.2.elim c24 (Int32.not_lt.mpr c29))]
              refine V_iinc (pc := 34) dX12_ring_34 (by decide) rfl rfl (iincN (n := 1) (by decide)) ?_
              refine V_goto (pc := 37) 4 dX12_ring_37 rfl ?_
              exact V_forget 3 (ih (i + 1) _ (by omega))
            · rw [if_pos ⟨c19, Or.inr (Int32.not_le.mp c29)⟩]
              refine V_iload_n (pc := 32) (i := 3) dX12_ring_32 rfl rfl ?_
              refine V_istore_n (pc := 33) (i := 1) dX12_ring_33 rfl (by decide) rfl ?_
              refine V_iinc (pc := 34) dX12_ring_34 (by decide) rfl rfl (iincN (n := 1) (by decide)) ?_
              refine V_goto (pc := 37) 4 dX12_ring_37 rfl ?_
              exact V_forget 3 (ih (i + 1) _ (by omega))
  exact loop 10 0 _ rfl
theorem X12_ends {n : Nat} (hn : S 3 1 = nI n) (h12 : n ≤ 12) (hd : 1 ≤ d) : VM G mX12_ends d 0 0 [.ref (b + 0)] (xE (some (.int (endF (S 10) (S 0 34) n 0 0 &&& (endF (fun i => 1 <<< (S 12 i &&& 31)) (S 0 34) n 0 0 ^^^ -1)))) (wH G b tbM S h0)) (wH G b tbM S h0) := by
  refine VM_start (ls := [some (.ref (b + 0)), none, none, none]) rfl ?_
  -- %m X12_ends
  refine V_iconst (pc := 0) (v := 0) dX12_ends_0 (by decide) ?_
  refine V_istore_n (pc := 1) (i := 1) dX12_ends_1 rfl (by decide) rfl ?_
  refine V_iconst (pc := 2) (v := 0) dX12_ends_2 (by decide) ?_
  refine V_istore_n (pc := 3) (i := 2) dX12_ends_3 rfl (by decide) rfl ?_
  refine V_iconst (pc := 4) (v := 0) dX12_ends_4 (by decide) ?_
  refine V_istore_n (pc := 5) (i := 3) dX12_ends_5 rfl (by decide) rfl ?_
  have loop : ∀ (m i : Nat) (x y : Int32), m + i = n → V G mX12_ends d 0 0 (xE (some (.int (endF (S 10) (S 0 34) m i y &&& (endF (fun i => 1 <<< (S 12 i &&& 31)) (S 0 34) m i x ^^^ -1)))) (wH G b tbM S h0)) 6 [some (.ref (b + 0)), some (.int x), some (.int y), some (.int (nI i))] [] (wH G b tbM S h0) := by
    intro m
    induction m with
    | zero =>
      intro i x y hm
      refine V_iload_n (pc := 6) (i := 3) dX12_ends_6 rfl rfl ?_
      refine V_aload_n (pc := 7) (i := 0) dX12_ends_7 rfl rfl ?_
      refine VW_getR (pc := 8) dX12_ends_8 fX12_36 (by first | assumption | rfl) rfl ?_
      refine V_iconst (pc := 11) (v := 1) dX12_ends_11 (by decide) ?_
      refine VW_ialdN (pc := 12) dX12_ends_12 (by first | assumption | rfl) (j := 1) rfl (by decide) (by first | decide | omega) ?_
      refine V_icmp_ge (pc := 13) 56 dX12_ends_13 rfl (fun c13 => ?_) (fun c13 => ?_)
      · refine V_iload_n (pc := 56) (i := 2) dX12_ends_56 rfl rfl ?_
        refine V_iload_n (pc := 57) (i := 1) dX12_ends_57 rfl rfl ?_
        refine V_iconst (pc := 58) (v := -1) dX12_ends_58 (by decide) ?_
        refine V_ixor (pc := 59) dX12_ends_59 ?_
        refine V_iand (pc := 60) dX12_ends_60 ?_
        exact VE_iret (pc := 61) dX12_ends_61 rfl rfl rfl
      · exact absurd (by rw [hn, show i = n by omega]; exact nI_le (by omega) (by omega)) c13
    | succ m ih =>
      intro i x y hm
      rw [endF, endF]
      refine V_iload_n (pc := 6) (i := 3) dX12_ends_6 rfl rfl ?_
      refine V_aload_n (pc := 7) (i := 0) dX12_ends_7 rfl rfl ?_
      refine VW_getR (pc := 8) dX12_ends_8 fX12_36 (by first | assumption | rfl) rfl ?_
      refine V_iconst (pc := 11) (v := 1) dX12_ends_11 (by decide) ?_
      refine VW_ialdN (pc := 12) dX12_ends_12 (by first | assumption | rfl) (j := 1) rfl (by decide) (by first | decide | omega) ?_
      refine V_icmp_ge (pc := 13) 56 dX12_ends_13 rfl (fun c13 => ?_) (fun c13 => ?_)
      · exact absurd c13 (by rw [hn]; exact nI_ge (by omega) (by omega))
      · refine V_aload_n (pc := 16) (i := 0) dX12_ends_16 rfl rfl ?_
        refine VW_getI (pc := 17) dX12_ends_17 fX12_304 (by first | assumption | rfl) rfl ?_
        refine V_iload_n (pc := 20) (i := 3) dX12_ends_20 rfl rfl ?_
        refine V_S2i (pc := 21) dX12_ends_21 cX12_263 (X12_isOf (d := 0) _ _) (Nat.le_of_ble_eq_true rfl) (by omega) (Nat.le_of_ble_eq_true rfl) ?_
        refine V_if_eq (pc := 24) 30 dX12_ends_24 rfl (fun c24 => ?_) (fun c24 => ?_)
        · rw [if_neg (by rw [b2i_0.mp c24]; decide), if_neg (by rw [b2i_0.mp c24]; decide)]
          refine V_iload_n (pc := 30) (i := 1) dX12_ends_30 rfl rfl ?_
          refine V_iconst (pc := 31) (v := 1) dX12_ends_31 (by decide) ?_
          refine V_aload_n (pc := 32) (i := 0) dX12_ends_32 rfl rfl ?_
          refine VW_getR (pc := 33) dX12_ends_33 fX12_64 (by first | assumption | rfl) rfl ?_
          refine V_iload_n (pc := 36) (i := 3) dX12_ends_36 rfl rfl ?_
          refine VW_ialdN (pc := 37) dX12_ends_37 (by first | assumption | rfl) rfl (by omega) (by first | decide | omega) ?_
          refine V_ishl (pc := 38) dX12_ends_38 ?_
          refine V_ior (pc := 39) dX12_ends_39 ?_
          refine V_istore_n (pc := 40) (i := 1) dX12_ends_40 rfl (by decide) rfl ?_
          refine V_iload_n (pc := 41) (i := 2) dX12_ends_41 rfl rfl ?_
          refine V_aload_n (pc := 42) (i := 0) dX12_ends_42 rfl rfl ?_
          refine VW_getR (pc := 43) dX12_ends_43 fX12_58 (by first | assumption | rfl) rfl ?_
          refine V_iload_n (pc := 46) (i := 3) dX12_ends_46 rfl rfl ?_
          refine VW_ialdN (pc := 47) dX12_ends_47 (by first | assumption | rfl) rfl (by omega) (by first | decide | omega) ?_
          refine V_ior (pc := 48) dX12_ends_48 ?_
          refine V_istore_n (pc := 49) (i := 2) dX12_ends_49 rfl (by decide) rfl ?_
          refine V_iinc (pc := 50) dX12_ends_50 (by decide) rfl rfl (iincN (n := 1) (by decide)) ?_
          refine V_goto (pc := 53) 6 dX12_ends_53 rfl ?_
          exact ih (i + 1) _ _ (by omega)
        · rw [if_pos (b2i_n0.mp c24), if_pos (b2i_n0.mp c24)]
          refine V_goto (pc := 27) 50 dX12_ends_27 rfl ?_
          refine V_iinc (pc := 50) dX12_ends_50 (by decide) rfl rfl (iincN (n := 1) (by decide)) ?_
          refine V_goto (pc := 53) 6 dX12_ends_53 rfl ?_
          exact ih (i + 1) _ _ (by omega)
  exact loop n 0 0 0 rfl
theorem up2_self {k j : Nat} : up2 S k j (S k j) = S := by
  funext k' j'
  by_cases e : k' = k
  · subst e
    by_cases e2 : j' = j
    · subst e2; rw [up2_same]
    · rw [up2_col e2]
  · rw [up2_row e]
theorem mF_up {n j : Nat} {dn x : Int32} : mF (up2 S 0 j x) n dn = mF S n dn := by
  funext t
  unfold mF
  rw [up2_row (by decide), up2_row (by decide), up2_row (by decide), up2_row (by decide)]
theorem X12_comeD {n : Nat} (hn : S 3 1 = nI n) (h12 : n ≤ 12) (hg : GvOk (S 12) n) (t dn : Int32) (hd : 3 ≤ d) : VM G mX12_come d 0 0 [.ref (b + 0), .int t] (xE (some (.int (allF (mF S n dn) (S 12) 10 t))) (wH G b tbM (up2 S 0 34 dn) h0)) (wH G b tbM (up2 S 0 34 dn) h0) := by
  have h := X12_come (G := G) (d := d) (b := b) (h0 := h0) (S := up2 S 0 34 dn) (n := n) (by rw [up2_row (by decide)]; exact hn) h12 (by rw [up2_row (by decide)]; exact hg) t hd
  rw [mF_up, up2_same, up2_row (show (12 : Nat) ≠ 0 by decide)] at h
  exact h
theorem bit_off {x : Int32} {i : Nat} (hi : i < 32) (h : hasB x (nI i) = false) : (x ||| 1 <<< (nI i &&& 31)) &&& (1 <<< (nI i &&& 31) ^^^ -1) = x := by
  rw [hasB_bt hi] at h
  refine b_ext (fun j hj => ?_)
  rw [b_and, b_or, b_not _ hj, b_shl1 hi hj]
  by_cases e : j = i
  · subst e; rw [h]; simp
  · simp [e]
/-- whether f and g are the same: m from i on -/
def eqvF (f g : Nat → Int32) : Nat → Nat → Bool
  | 0, _ => true
  | m + 1, i => if f i = g i then eqvF f g m (i + 1) else false
def mIdl (S : Nat → Nat → Int32) (n i : Nat) : Bool := eqvF (fun t => allF (mF S n (S 0 34 ||| 1 <<< (nI i &&& 31))) (S 12) 10 (nI t)) (fun t => allF (mF S n (S 0 34)) (S 12) 10 (nI t)) 1024 0
theorem X12_idle {n : Nat} (hn : S 3 1 = nI n) (h12 : n ≤ 12) (hg : GvOk (S 12) n) (hb : gB G ≤ b) (hd : 4 ≤ d) : VM G mX12_idle d 0 0 [.ref (b + 0)] (xE (some (.int (colB (fun i => !hasB (S 0 34) (nI i) && mIdl S n i) n 0 0))) (wH G b tbM S h0)) (wH G b tbM S h0) := by
  refine VM_start (ls := [some (.ref (b + 0)), none, none, none, none, none]) rfl ?_
  -- %m X12_idle
  refine V_iconst (pc := 0) (v := 0) dX12_idle_0 (by decide) ?_
  refine V_istore_n (pc := 1) (i := 1) dX12_idle_1 rfl (by decide) rfl ?_
  refine V_iconst (pc := 2) (v := 0) dX12_idle_2 (by decide) ?_
  refine V_istore_n (pc := 3) (i := 2) dX12_idle_3 rfl (by decide) rfl ?_
  have inner : ∀ (m k i : Nat) (x : Int32) (Q : xR → xH → Prop), m + k = 1024 → i < 12 → hasB (S 0 34) (nI i) = false → (V G mX12_idle d 0 0 Q 102 [some (.ref (b + 0)), some (.int x), some (.int (nI i)), some (.int (b2i (eqvF (fun t => allF (mF S n (S 0 34 ||| 1 <<< (nI i &&& 31))) (S 12) 10 (nI t)) (fun t => allF (mF S n (S 0 34)) (S 12) 10 (nI t)) m k))), none, none] [] (wH G b tbM S h0)) → V G mX12_idle d 0 0 Q 33 [some (.ref (b + 0)), some (.int x), some (.int (nI i)), some (.int 1), some (.int (nI k)), none] [] (wH G b tbM S h0) := by
    intro m
    induction m with
    | zero =>
      intro k i x Q hm hi hh kk
      refine V_iload (pc := 33) dX12_idle_33 rfl ?_
      refine V_sipush (pc := 35) (v := 1023) dX12_idle_35 (by decide) ?_
      refine V_icmp_gt (pc := 38) 102 dX12_idle_38 rfl (fun c38 => ?_) (fun c38 => ?_)
      · exact V_forget 4 kk
      · exact absurd (by rw [show k = 1024 by omega]; decide) c38
    | succ m ih =>
      intro k i x Q hm hi hh kk
      rw [eqvF] at kk
      refine V_iload (pc := 33) dX12_idle_33 rfl ?_
      refine V_sipush (pc := 35) (v := 1023) dX12_idle_35 (by decide) ?_
      refine V_icmp_gt (pc := 38) 102 dX12_idle_38 rfl (fun c38 => ?_) (fun c38 => ?_)
      · exact absurd c38 (nI_nlt (a := 1023) (by omega) (by decide))
      · refine V_iload_n (pc := 41) (i := 3) dX12_idle_41 rfl rfl ?_
        refine V_if_eq (pc := 42) 102 dX12_idle_42 rfl (fun c42 => ?_) (fun c42 => ?_)
        · exact absurd c42 (by decide)
        · refine V_aload_n (pc := 45) (i := 0) dX12_idle_45 rfl rfl ?_
          refine V_iload (pc := 46) dX12_idle_46 rfl ?_
          refine V_V1i (pc := 48) dX12_idle_48 cX12_323 (by first | assumption | rfl) (X12_come (d := 3) hn h12 hg _ (by omega)) (Nat.le_of_ble_eq_true rfl) (by omega) (Nat.le_of_ble_eq_true rfl) ?_
          refine V_istore (pc := 51) dX12_idle_51 (by decide) rfl ?_
          refine V_aload_n (pc := 53) (i := 0) dX12_idle_53 rfl rfl ?_
          refine V_dup (pc := 54) dX12_idle_54 rfl ?_
          refine VW_getI (pc := 55) dX12_idle_55 fX12_304 (by first | assumption | rfl) rfl ?_
          refine V_iconst (pc := 58) (v := 1) dX12_idle_58 (by decide) ?_
          refine V_iload_n (pc := 59) (i := 2) dX12_idle_59 rfl rfl ?_
          refine V_ishl (pc := 60) dX12_idle_60 ?_
          refine V_ior (pc := 61) dX12_idle_61 ?_
          refine VW_putI (pc := 62) dX12_idle_62 fX12_304 ftX12 (fpI rfl rfl (tyX12_ok 34 (by decide))) (by first | assumption | rfl) rfl (by assumption) ?_
          refine V_aload_n (pc := 65) (i := 0) dX12_idle_65 rfl rfl ?_
          refine V_iload (pc := 66) dX12_idle_66 rfl ?_
          refine V_V1i (pc := 68) dX12_idle_68 cX12_323 (by first | assumption | rfl) (X12_comeD (d := 3) hn h12 hg _ _ (by omega)) (Nat.le_of_ble_eq_true rfl) (by omega) (Nat.le_of_ble_eq_true rfl) ?_
          refine V_iload (pc := 71) dX12_idle_71 rfl ?_
          refine V_icmp_ne (pc := 73) 80 dX12_idle_73 rfl (fun c73 => ?_) (fun c73 => ?_)
          · rw [if_neg c73] at kk
            refine V_iconst (pc := 80) (v := 0) dX12_idle_80 (by decide) ?_
            refine V_istore_n (pc := 81) (i := 3) dX12_idle_81 rfl (by decide) rfl ?_
            refine V_aload_n (pc := 82) (i := 0) dX12_idle_82 rfl rfl ?_
            refine V_dup (pc := 83) dX12_idle_83 rfl ?_
            refine VW_getI (pc := 84) dX12_idle_84 fX12_304 (by first | assumption | rfl) rfl ?_
            refine V_iconst (pc := 87) (v := 1) dX12_idle_87 (by decide) ?_
            refine V_iload_n (pc := 88) (i := 2) dX12_idle_88 rfl rfl ?_
            refine V_ishl (pc := 89) dX12_idle_89 ?_
            refine V_iconst (pc := 90) (v := -1) dX12_idle_90 (by decide) ?_
            refine V_ixor (pc := 91) dX12_idle_91 ?_
            refine V_iand (pc := 92) dX12_idle_92 ?_
            rw [up2_same, bit_off (by omega) hh]
            refine VW_putI (pc := 93) dX12_idle_93 fX12_304 ftX12 (fpI rfl rfl (tyX12_ok 34 (by decide))) (by first | assumption | rfl) rfl (by assumption) ?_
            rw [up2_up2, up2_self]
            refine V_iinc (pc := 96) dX12_idle_96 (by decide) rfl rfl (iincN (n := 1) (by decide)) ?_
            refine V_goto (pc := 99) 33 dX12_idle_99 rfl ?_
            refine V_iload (pc := 33) dX12_idle_33 rfl ?_
            refine V_sipush (pc := 35) (v := 1023) dX12_idle_35 (by decide) ?_
            refine V_icmp_gt (pc := 38) 102 dX12_idle_38 rfl (fun c38b => ?_) (fun c38b => ?_)
            · exact V_forget 4 (V_forget 5 kk)
            · refine V_iload_n (pc := 41) (i := 3) dX12_idle_41 rfl rfl ?_
              refine V_if_eq (pc := 42) 102 dX12_idle_42 rfl (fun c42b => ?_) (fun c42b => ?_)
              · exact V_forget 4 (V_forget 5 kk)
              · exact absurd rfl c42b
          · rw [if_pos c73] at kk
            refine V_iconst (pc := 76) (v := 1) dX12_idle_76 (by decide) ?_
            refine V_goto (pc := 77) 81 dX12_idle_77 rfl ?_
            refine V_istore_n (pc := 81) (i := 3) dX12_idle_81 rfl (by decide) rfl ?_
            refine V_aload_n (pc := 82) (i := 0) dX12_idle_82 rfl rfl ?_
            refine V_dup (pc := 83) dX12_idle_83 rfl ?_
            refine VW_getI (pc := 84) dX12_idle_84 fX12_304 (by first | assumption | rfl) rfl ?_
            refine V_iconst (pc := 87) (v := 1) dX12_idle_87 (by decide) ?_
            refine V_iload_n (pc := 88) (i := 2) dX12_idle_88 rfl rfl ?_
            refine V_ishl (pc := 89) dX12_idle_89 ?_
            refine V_iconst (pc := 90) (v := -1) dX12_idle_90 (by decide) ?_
            refine V_ixor (pc := 91) dX12_idle_91 ?_
            refine V_iand (pc := 92) dX12_idle_92 ?_
            rw [up2_same, bit_off (by omega) hh]
            refine VW_putI (pc := 93) dX12_idle_93 fX12_304 ftX12 (fpI rfl rfl (tyX12_ok 34 (by decide))) (by first | assumption | rfl) rfl (by assumption) ?_
            rw [up2_up2, up2_self]
            refine V_iinc (pc := 96) dX12_idle_96 (by decide) rfl rfl (iincN (n := 1) (by decide)) ?_
            refine V_goto (pc := 99) 33 dX12_idle_99 rfl ?_
            exact V_forget 5 (ih (k + 1) i x Q (by omega) hi hh kk)
  have loop : ∀ (m i : Nat) (x : Int32), m + i = n → V G mX12_idle d 0 0 (xE (some (.int (colB (fun i => !hasB (S 0 34) (nI i) && mIdl S n i) m i x))) (wH G b tbM S h0)) 4 [some (.ref (b + 0)), some (.int x), some (.int (nI i)), none, none, none] [] (wH G b tbM S h0) := by
    intro m
    induction m with
    | zero =>
      intro i x hm
      refine V_iload_n (pc := 4) (i := 2) dX12_idle_4 rfl rfl ?_
      refine V_aload_n (pc := 5) (i := 0) dX12_idle_5 rfl rfl ?_
      refine VW_getR (pc := 6) dX12_idle_6 fX12_36 (by first | assumption | rfl) rfl ?_
      refine V_iconst (pc := 9) (v := 1) dX12_idle_9 (by decide) ?_
      refine VW_ialdN (pc := 10) dX12_idle_10 (by first | assumption | rfl) (j := 1) rfl (by decide) (by first | decide | omega) ?_
      refine V_icmp_ge (pc := 11) 122 dX12_idle_11 rfl (fun c11 => ?_) (fun c11 => ?_)
      · refine V_iload_n (pc := 122) (i := 1) dX12_idle_122 rfl rfl ?_
        exact VE_iret (pc := 123) dX12_idle_123 rfl rfl rfl
      · exact absurd (by rw [hn, show i = n by omega]; exact nI_le (by omega) (by omega)) c11
    | succ m ih =>
      intro i x hm
      rw [colB]
      refine V_iload_n (pc := 4) (i := 2) dX12_idle_4 rfl rfl ?_
      refine V_aload_n (pc := 5) (i := 0) dX12_idle_5 rfl rfl ?_
      refine VW_getR (pc := 6) dX12_idle_6 fX12_36 (by first | assumption | rfl) rfl ?_
      refine V_iconst (pc := 9) (v := 1) dX12_idle_9 (by decide) ?_
      refine VW_ialdN (pc := 10) dX12_idle_10 (by first | assumption | rfl) (j := 1) rfl (by decide) (by first | decide | omega) ?_
      refine V_icmp_ge (pc := 11) 122 dX12_idle_11 rfl (fun c11 => ?_) (fun c11 => ?_)
      · exact absurd c11 (by rw [hn]; exact nI_ge (by omega) (by omega))
      · refine V_aload_n (pc := 14) (i := 0) dX12_idle_14 rfl rfl ?_
        refine VW_getI (pc := 15) dX12_idle_15 fX12_304 (by first | assumption | rfl) rfl ?_
        refine V_iload_n (pc := 18) (i := 2) dX12_idle_18 rfl rfl ?_
        refine V_S2i (pc := 19) dX12_idle_19 cX12_263 (X12_isOf (d := 0) _ _) (Nat.le_of_ble_eq_true rfl) (by omega) (Nat.le_of_ble_eq_true rfl) ?_
        refine V_if_eq (pc := 22) 28 dX12_idle_22 rfl (fun c22 => ?_) (fun c22 => ?_)
        · refine V_iconst (pc := 28) (v := 1) dX12_idle_28 (by decide) ?_
          refine V_istore_n (pc := 29) (i := 3) dX12_idle_29 rfl (by decide) rfl ?_
          refine V_iconst (pc := 30) (v := 0) dX12_idle_30 (by decide) ?_
          refine V_istore (pc := 31) dX12_idle_31 (by decide) rfl ?_
          refine inner 1024 0 i x _ rfl (by omega) (b2i_0.mp c22) ?_
          have e0 : hasB (S 0 34) (nI i) = false := b2i_0.mp c22
          refine V_iload_n (pc := 102) (i := 1) dX12_idle_102 rfl rfl ?_
          refine V_iload_n (pc := 103) (i := 3) dX12_idle_103 rfl rfl ?_
          refine V_if_eq (pc := 104) 113 dX12_idle_104 rfl (fun c104 => ?_) (fun c104 => ?_)
          · rw [if_neg (by rw [e0]; unfold mIdl; rw [b2i_0.mp c104]; decide)]
            refine V_iconst (pc := 113) (v := 0) dX12_idle_113 (by decide) ?_
            refine V_ior (pc := 114) dX12_idle_114 ?_
            rw [Int32.or_zero]
            refine V_istore_n (pc := 115) (i := 1) dX12_idle_115 rfl (by decide) rfl ?_
            refine V_iinc (pc := 116) dX12_idle_116 (by decide) rfl rfl (iincN (n := 1) (by decide)) ?_
            refine V_goto (pc := 119) 4 dX12_idle_119 rfl ?_
            exact V_forget 3 (ih (i + 1) _ (by omega))
          · rw [if_pos (by rw [e0]; unfold mIdl; rw [b2i_n0.mp c104]; decide)]
            refine V_iconst (pc := 107) (v := 1) dX12_idle_107 (by decide) ?_
            refine V_iload_n (pc := 108) (i := 2) dX12_idle_108 rfl rfl ?_
            refine V_ishl (pc := 109) dX12_idle_109 ?_
            refine V_goto (pc := 110) 114 dX12_idle_110 rfl ?_
            refine V_ior (pc := 114) dX12_idle_114 ?_
            refine V_istore_n (pc := 115) (i := 1) dX12_idle_115 rfl (by decide) rfl ?_
            refine V_iinc (pc := 116) dX12_idle_116 (by decide) rfl rfl (iincN (n := 1) (by decide)) ?_
            refine V_goto (pc := 119) 4 dX12_idle_119 rfl ?_
            exact V_forget 3 (ih (i + 1) _ (by omega))
        · rw [if_neg (by rw [b2i_n0.mp c22]; simp)]
          refine V_goto (pc := 25) 116 dX12_idle_25 rfl ?_
          refine V_iinc (pc := 116) dX12_idle_116 (by decide) rfl rfl (iincN (n := 1) (by decide)) ?_
          refine V_goto (pc := 119) 4 dX12_idle_119 rfl ?_
          exact ih (i + 1) _ (by omega)
  exact loop n 0 0 rfl
theorem X12_parting {n : Nat} (hn : S 3 1 = nI n) (h12 : n ≤ 12) (hg : GvOk (S 12) n) (t w : Int32) (hb : gB G ≤ b) (hd : 4 ≤ d) : VM G mX12_parting d 0 0 [.ref (b + 0), .int t, .int w] (xE (some (.int (colB (fun i => !hasB (S 0 34) (nI i) && !decide (allF (mF S n (S 0 34 ||| 1 <<< (nI i &&& 31))) (S 12) 10 t &&& w = allF (mF S n (S 0 34)) (S 12) 10 t &&& w)) n 0 0))) (wH G b tbM S h0)) (wH G b tbM S h0) := by
  refine VM_start (ls := [some (.ref (b + 0)), some (.int t), some (.int w), none, none, none]) rfl ?_
  -- %m X12_parting
  refine V_aload_n (pc := 0) (i := 0) dX12_parting_0 rfl rfl ?_
  refine V_iload_n (pc := 1) (i := 1) dX12_parting_1 rfl rfl ?_
  refine V_V1i (pc := 2) dX12_parting_2 cX12_323 (by first | assumption | rfl) (X12_come (d := 3) hn h12 hg _ (by omega)) (Nat.le_of_ble_eq_true rfl) (by omega) (Nat.le_of_ble_eq_true rfl) ?_
  refine V_iload_n (pc := 5) (i := 2) dX12_parting_5 rfl rfl ?_
  refine V_iand (pc := 6) dX12_parting_6 ?_
  refine V_istore_n (pc := 7) (i := 3) dX12_parting_7 rfl (by decide) rfl ?_
  refine V_iconst (pc := 8) (v := 0) dX12_parting_8 (by decide) ?_
  refine V_istore (pc := 9) dX12_parting_9 (by decide) rfl ?_
  refine V_iconst (pc := 11) (v := 0) dX12_parting_11 (by decide) ?_
  refine V_istore (pc := 12) dX12_parting_12 (by decide) rfl ?_
  have loop : ∀ (m i : Nat) (x : Int32), m + i = n → V G mX12_parting d 0 0 (xE (some (.int (colB (fun i => !hasB (S 0 34) (nI i) && !decide (allF (mF S n (S 0 34 ||| 1 <<< (nI i &&& 31))) (S 12) 10 t &&& w = allF (mF S n (S 0 34)) (S 12) 10 t &&& w)) m i x))) (wH G b tbM S h0)) 14 [some (.ref (b + 0)), some (.int t), some (.int w), some (.int (allF (mF S n (S 0 34)) (S 12) 10 t &&& w)), some (.int x), some (.int (nI i))] [] (wH G b tbM S h0) := by
    intro m
    induction m with
    | zero =>
      intro i x hm
      refine V_iload (pc := 14) dX12_parting_14 rfl ?_
      refine V_aload_n (pc := 16) (i := 0) dX12_parting_16 rfl rfl ?_
      refine VW_getR (pc := 17) dX12_parting_17 fX12_36 (by first | assumption | rfl) rfl ?_
      refine V_iconst (pc := 20) (v := 1) dX12_parting_20 (by decide) ?_
      refine VW_ialdN (pc := 21) dX12_parting_21 (by first | assumption | rfl) (j := 1) rfl (by decide) (by first | decide | omega) ?_
      refine V_icmp_ge (pc := 22) 98 dX12_parting_22 rfl (fun c22 => ?_) (fun c22 => ?_)
      · refine V_iload (pc := 98) dX12_parting_98 rfl ?_
        exact VE_iret (pc := 100) dX12_parting_100 rfl rfl rfl
      · exact absurd (by rw [hn, show i = n by omega]; exact nI_le (by omega) (by omega)) c22
    | succ m ih =>
      intro i x hm
      rw [colB]
      refine V_iload (pc := 14) dX12_parting_14 rfl ?_
      refine V_aload_n (pc := 16) (i := 0) dX12_parting_16 rfl rfl ?_
      refine VW_getR (pc := 17) dX12_parting_17 fX12_36 (by first | assumption | rfl) rfl ?_
      refine V_iconst (pc := 20) (v := 1) dX12_parting_20 (by decide) ?_
      refine VW_ialdN (pc := 21) dX12_parting_21 (by first | assumption | rfl) (j := 1) rfl (by decide) (by first | decide | omega) ?_
      refine V_icmp_ge (pc := 22) 98 dX12_parting_22 rfl (fun c22 => ?_) (fun c22 => ?_)
      · exact absurd c22 (by rw [hn]; exact nI_ge (by omega) (by omega))
      · refine V_aload_n (pc := 25) (i := 0) dX12_parting_25 rfl rfl ?_
        refine VW_getI (pc := 26) dX12_parting_26 fX12_304 (by first | assumption | rfl) rfl ?_
        refine V_iload (pc := 29) dX12_parting_29 rfl ?_
        refine V_S2i (pc := 31) dX12_parting_31 cX12_263 (X12_isOf (d := 0) _ _) (Nat.le_of_ble_eq_true rfl) (by omega) (Nat.le_of_ble_eq_true rfl) ?_
        refine V_if_eq (pc := 34) 40 dX12_parting_34 rfl (fun c34 => ?_) (fun c34 => ?_)
        · refine V_aload_n (pc := 40) (i := 0) dX12_parting_40 rfl rfl ?_
          refine V_dup (pc := 41) dX12_parting_41 rfl ?_
          refine VW_getI (pc := 42) dX12_parting_42 fX12_304 (by first | assumption | rfl) rfl ?_
          refine V_iconst (pc := 45) (v := 1) dX12_parting_45 (by decide) ?_
          refine V_iload (pc := 46) dX12_parting_46 rfl ?_
          refine V_ishl (pc := 48) dX12_parting_48 ?_
          refine V_ior (pc := 49) dX12_parting_49 ?_
          refine VW_putI (pc := 50) dX12_parting_50 fX12_304 ftX12 (fpI rfl rfl (tyX12_ok 34 (by decide))) (by first | assumption | rfl) rfl (by assumption) ?_
          refine V_iload (pc := 53) dX12_parting_53 rfl ?_
          refine V_aload_n (pc := 55) (i := 0) dX12_parting_55 rfl rfl ?_
          refine V_iload_n (pc := 56) (i := 1) dX12_parting_56 rfl rfl ?_
          refine V_V1i (pc := 57) dX12_parting_57 cX12_323 (by first | assumption | rfl) (X12_comeD (d := 3) hn h12 hg _ _ (by omega)) (Nat.le_of_ble_eq_true rfl) (by omega) (Nat.le_of_ble_eq_true rfl) ?_
          refine V_iload_n (pc := 60) (i := 2) dX12_parting_60 rfl rfl ?_
          refine V_iand (pc := 61) dX12_parting_61 ?_
          refine V_iload_n (pc := 62) (i := 3) dX12_parting_62 rfl rfl ?_
          refine V_icmp_eq (pc := 63) 73 dX12_parting_63 rfl (fun c63 => ?_) (fun c63 => ?_)
          · rw [if_neg (by rw [b2i_0.mp c34, decide_eq_true c63]; decide)]
            refine V_iconst (pc := 73) (v := 0) dX12_parting_73 (by decide) ?_
            refine V_ior (pc := 74) dX12_parting_74 ?_
            (first | rw [Int32.or_zero] | skip)
            refine V_istore (pc := 75) dX12_parting_75 (by decide) rfl ?_
            refine V_aload_n (pc := 77) (i := 0) dX12_parting_77 rfl rfl ?_
            refine V_dup (pc := 78) dX12_parting_78 rfl ?_
            refine VW_getI (pc := 79) dX12_parting_79 fX12_304 (by first | assumption | rfl) rfl ?_
            refine V_iconst (pc := 82) (v := 1) dX12_parting_82 (by decide) ?_
            refine V_iload (pc := 83) dX12_parting_83 rfl ?_
            refine V_ishl (pc := 85) dX12_parting_85 ?_
            refine V_iconst (pc := 86) (v := -1) dX12_parting_86 (by decide) ?_
            refine V_ixor (pc := 87) dX12_parting_87 ?_
            refine V_iand (pc := 88) dX12_parting_88 ?_
            rw [up2_same, bit_off (by omega) (b2i_0.mp c34)]
            refine VW_putI (pc := 89) dX12_parting_89 fX12_304 ftX12 (fpI rfl rfl (tyX12_ok 34 (by decide))) (by first | assumption | rfl) rfl (by assumption) ?_
            (first | rw [up2_up2, up2_self] | skip)
            refine V_iinc (pc := 92) dX12_parting_92 (by decide) rfl rfl (iincN (n := 1) (by decide)) ?_
            refine V_goto (pc := 95) 14 dX12_parting_95 rfl ?_
            exact ih (i + 1) _ (by omega)
          · rw [if_pos (by rw [b2i_0.mp c34, decide_eq_false c63]; rfl)]
            refine V_iconst (pc := 66) (v := 1) dX12_parting_66 (by decide) ?_
            refine V_iload (pc := 67) dX12_parting_67 rfl ?_
            refine V_ishl (pc := 69) dX12_parting_69 ?_
            refine V_goto (pc := 70) 74 dX12_parting_70 rfl ?_
            refine V_ior (pc := 74) dX12_parting_74 ?_
            (first | rw [Int32.or_zero] | skip)
            refine V_istore (pc := 75) dX12_parting_75 (by decide) rfl ?_
            refine V_aload_n (pc := 77) (i := 0) dX12_parting_77 rfl rfl ?_
            refine V_dup (pc := 78) dX12_parting_78 rfl ?_
            refine VW_getI (pc := 79) dX12_parting_79 fX12_304 (by first | assumption | rfl) rfl ?_
            refine V_iconst (pc := 82) (v := 1) dX12_parting_82 (by decide) ?_
            refine V_iload (pc := 83) dX12_parting_83 rfl ?_
            refine V_ishl (pc := 85) dX12_parting_85 ?_
            refine V_iconst (pc := 86) (v := -1) dX12_parting_86 (by decide) ?_
            refine V_ixor (pc := 87) dX12_parting_87 ?_
            refine V_iand (pc := 88) dX12_parting_88 ?_
            rw [up2_same, bit_off (by omega) (b2i_0.mp c34)]
            refine VW_putI (pc := 89) dX12_parting_89 fX12_304 ftX12 (fpI rfl rfl (tyX12_ok 34 (by decide))) (by first | assumption | rfl) rfl (by assumption) ?_
            (first | rw [up2_up2, up2_self] | skip)
            refine V_iinc (pc := 92) dX12_parting_92 (by decide) rfl rfl (iincN (n := 1) (by decide)) ?_
            refine V_goto (pc := 95) 14 dX12_parting_95 rfl ?_
            exact ih (i + 1) _ (by omega)
        · rw [if_neg (by rw [b2i_n0.mp c34]; simp)]
          refine V_goto (pc := 37) 92 dX12_parting_37 rfl ?_
          (first | rw [up2_up2, up2_self] | skip)
          refine V_iinc (pc := 92) dX12_parting_92 (by decide) rfl rfl (iincN (n := 1) (by decide)) ?_
          refine V_goto (pc := 95) 14 dX12_parting_95 rfl ?_
          exact ih (i + 1) _ (by omega)
  exact loop n 0 0 rfl
end M3
