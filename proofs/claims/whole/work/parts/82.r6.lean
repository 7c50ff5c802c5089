/-! ===== class and model: what is asked of THINGS and PEOPLE ===== -/
section R6
variable {S T : Nat → Nat → Int32} {s n pp r bb : Nat}
theorem Rq.cz (h : Rq S T s n pp r bb) : Rq S (up2 T 0 2 0) s n pp r bb := by
  obtain ⟨a, c, l, mi, po⟩ := h
  refine ⟨a, c.off (fun _ _ _ _ => rfl) (fun j h1 h2 => up2_row (by omega)), ?_, mi.cz (by decide), po.cz⟩
  unfold LV at *
  simp (disch := decide) only [up2_row, up2_col]
  exact l
theorem Rq.dn (h : Rq S T s n pp r bb) : S 17 4 = T 0 34 := h.2.2.1.1.2.2.symm
theorem come_eq {dn : Int32} (h : Rq S T s n pp r bb) (x : Int32) : allF (cF S (s + 2) n dn) (S (s + 5)) 10 x = allF (mF T n dn) (T 12) 10 x := all_eq h.2.1.1 h.2.2.2.1.2.1 10 x
theorem Rq.there {q : Nat} (h : Rq S T s n pp r bb) (hq : q < pp) : cThere S s 17 n q = mThere T n q ∧ cSpare S s 17 n q = mSpare T n q := there_eq h.2.1 h.2.2.2.1.2.1 h.2.2.1 hq
theorem Rq.own {q : Nat} (h : Rq S T s n pp r bb) (hq : q < pp) : S 18 q = T 16 q ∧ S 19 q = T 17 q ∧ S 20 q = T 18 q ∧ S 21 q = T 19 q := by
  obtain ⟨a1, a2, a3, a4⟩ := h.2.2.1.2 q hq
  exact ⟨a1.symm, a2.symm, a3.symm, a4.symm⟩
theorem bank_eq {v q : Nat} (h : Rq S T s n pp r bb) (hq : q < pp) : bankF S s n v q = mBank T n v q := by
  unfold bankF mBank
  rw [(h.own hq).1, (h.there hq).1, (h.there hq).2]
theorem happiest_eq {v : Nat} (h : Rq S T s n pp r bb) : mstF (fun i => sumB (S (s + 1)) (bankF S s n v i) 10 0 0) pp 0 (-1) 0 = mstM (fun i => sumB (T 4) (mBank T n v i) 10 0 0) pp 0 (-1) := by
  have h8 : pp ≤ 8 := h.2.2.2.1.2.2.2.2.1
  refine mst_eq pp 0 (-1) 0 (by omega) (fun j hj => ?_) (Or.inl rfl)
  show sumB (S (s + 1)) (bankF S s n v j) 10 0 0 = sumB (T 4) (mBank T n v j) 10 0 0
  rw [worth_eq h.2.1, bank_eq h (by omega)]
theorem like_eq {v q : Nat} (h : Rq S T s n pp r bb) (hq : q < pp) : colB (fun i => decide ((if nI v = 0 then cThere S s 17 n i else S 18 i) = cThere S s 17 n q)) pp 0 0 = colB (fun i => decide ((if nI v = 0 then mThere T n i else T 16 i) = mThere T n q)) pp 0 0 := by
  refine colB_congr pp 0 0 (fun j _ hj => ?_)
  show decide ((if nI v = 0 then cThere S s 17 n j else S 18 j) = cThere S s 17 n q) = decide ((if nI v = 0 then mThere T n j else T 16 j) = mThere T n q)
  rw [(h.there hq).1, (h.there (show j < pp by omega)).1, (h.own (show j < pp by omega)).1]
theorem orB_congr {f g : Nat → Int32} {x : Int32} : ∀ (m i : Nat) (y : Int32), (∀ j, i ≤ j → j < i + m → f j = g j) → orB f x m i y = orB g x m i y := by
  intro m
  induction m with
  | zero => intro i y _; rfl
  | succ m ih => intro i y h; rw [orB, orB, h i (by omega) (by omega), ih _ _ (fun j a c => h j (by omega) (by omega))]
theorem toSend_eq {k : Int32} (hs : s = 4 ∨ s = 44) (h : Rq S T s n pp r bb) : sndF (fun i => orB (wkBegin S (S 0 9) n pp 63) (nI i) pp 0 0) k (2 ^ pp) 0 (-1) (-1) = sndF (fun i => orB (mThere T n) (nI i) pp 0 0) k (2 ^ pp) 0 (-1) (-1) := by
  have w := begin_WR hs h
  congr 1
  funext i
  exact orB_congr pp 0 0 (fun j _ hj => (w.2.2.2.2 j (by omega)).1)
theorem unhad_eq (h : Rq S T s n pp r bb) : 1023 &&& (orN (cThere S s 17 n) pp 0 0 ^^^ -1) = andN (mThere T n) pp 0 1023 := by
  rw [orN_andN (g := mThere T n) 1023 pp 0 0 (fun j _ hj => (h.there (show j < pp by omega)).1)]
  congr 1
theorem sup_eq {q i : Nat} (h : Rq S T s n pp r bb) (hq : q < pp) : supF S s n q i = mSup T n q i := by
  unfold supF mSup
  rw [h.dn, come_eq h, (h.own hq).1]
theorem best_eq {q : Nat} (h : Rq S T s n pp r bb) (hq : q < pp) : bmF (fun i => sumB (S (s + 1)) (supF S s n q i) 10 0 0) 9 1 0 = bmF (fun i => sumB (T 4) (mSup T n q i) 10 0 0) 9 1 0 := by
  congr 1
  funext i
  rw [worth_eq h.2.1, sup_eq h hq]
/-- what was seen, on both sides -/
def SN (S T : Nat → Nat → Int32) (k ns : Nat) : Prop := S k 3 = nI ns ∧ T 0 37 = nI ns ∧ ns ≤ 8 ∧ ∀ j, j < ns → S (k + 1) j = T 26 j ∧ S (k + 2) j = T 27 j ∧ T 28 j = b2i (hasB (S k 2) (nI j))
theorem asM_f {pe th hs : Nat → Int32} {p x : Int32} : ∀ (m k : Nat), asM pe th hs p x m k false = false := by
  intro m
  induction m with
  | zero => intro k; rfl
  | succ m ih => intro k; rw [asM]; exact ih _
theorem agr_eq {pe th pe' th' hs : Nat → Int32} {had p x : Int32} : ∀ (m i : Nat), (∀ j, i ≤ j → j < i + m → pe j = pe' j ∧ th j = th' j ∧ hs j = b2i (hasB had (nI j))) → agr pe th had p x m i = asM pe' th' hs p x m i true := by
  intro m
  induction m with
  | zero => intro i _; rfl
  | succ m ih =>
    intro i h
    obtain ⟨e1, e2, e3⟩ := h i (by omega) (by omega)
    rw [agr, asM, e1, e2, e3, ih (i + 1) (fun j a c => h j (by omega) (by omega))]
    by_cases c : pe' i = p
    · rw [decide_eq_true c]
      cases e4 : hasB x (th' i) <;> cases e5 : hasB had (nI i)
      · rw [if_neg (fun z => z.2 rfl)]; rfl
      · rw [if_pos ⟨c, by decide⟩, show (true && (!true || decide (b2i false = b2i true))) = false by decide, asM_f]
      · rw [if_pos ⟨c, by decide⟩, show (true && (!true || decide (b2i true = b2i false))) = false by decide, asM_f]
      · rw [if_neg (fun z => z.2 rfl)]; rfl
    · rw [if_neg (fun z => c z.1), decide_eq_false c]; rfl
theorem tells_eq {q ns : Nat} (h : Rq S T s n pp r bb) (sn : SN S T 24 ns) (hq : q < pp) : colB (fun i => agr (S 25) (S 26) (S 24 2) (nI q) (supF S s n q i) ns 0) 10 0 0 = mTel T n ns q := by
  unfold mTel
  congr 1
  funext i
  rw [sup_eq h hq]
  exact agr_eq ns 0 (fun j _ hj => sn.2.2.2 j (by omega))
theorem cnt_le {P Q : Nat → Bool} (h : ∀ i, i < 32 → P i = true → Q i = true) : ∀ (m i k k' : Nat), i + m ≤ 32 → k ≤ k' → ∃ a c, a ≤ c ∧ c ≤ k' + m ∧ cntP P m i (nI k) = nI a ∧ cntP Q m i (nI k') = nI c := by
  intro m
  induction m with
  | zero => intro i k k' _ hk; exact ⟨k, k', hk, by omega, rfl, rfl⟩
  | succ m ih =>
    intro i k k' hi hk
    rw [cntP, cntP]
    cases e1 : P i with
    | true =>
      rw [h i (by omega) e1, if_pos rfl, if_pos rfl, nI_1, nI_1]
      obtain ⟨a, c, h1, h2, h3, h4⟩ := ih (i + 1) (k + 1) (k' + 1) (by omega) (by omega)
      exact ⟨a, c, h1, by omega, h3, h4⟩
    | false =>
      cases e2 : Q i with
      | true =>
        rw [if_neg (by decide), if_pos rfl, nI_1]
        obtain ⟨a, c, h1, h2, h3, h4⟩ := ih (i + 1) k (k' + 1) (by omega) (by omega)
        exact ⟨a, c, h1, by omega, h3, h4⟩
      | false =>
        rw [if_neg (by decide), if_neg (by decide)]
        obtain ⟨a, c, h1, h2, h3, h4⟩ := ih (i + 1) k k' (by omega) hk
        exact ⟨a, c, h1, by omega, h3, h4⟩
theorem bc_n0 : ∀ x, x < 512 → cntP (fun i => hasB (nI (0 + x)) (nI i)) 12 0 (nI 0) = bcI (nI (0 + x)) := by decide +kernel
theorem bc_n1 : ∀ x, x < 512 → cntP (fun i => hasB (nI (512 + x)) (nI i)) 12 0 (nI 0) = bcI (nI (512 + x)) := by decide +kernel
theorem bc_n2 : ∀ x, x < 512 → cntP (fun i => hasB (nI (1024 + x)) (nI i)) 12 0 (nI 0) = bcI (nI (1024 + x)) := by decide +kernel
theorem bc_n3 : ∀ x, x < 512 → cntP (fun i => hasB (nI (1536 + x)) (nI i)) 12 0 (nI 0) = bcI (nI (1536 + x)) := by decide +kernel
theorem bc_n4 : ∀ x, x < 512 → cntP (fun i => hasB (nI (2048 + x)) (nI i)) 12 0 (nI 0) = bcI (nI (2048 + x)) := by decide +kernel
theorem bc_n5 : ∀ x, x < 512 → cntP (fun i => hasB (nI (2560 + x)) (nI i)) 12 0 (nI 0) = bcI (nI (2560 + x)) := by decide +kernel
theorem bc_n6 : ∀ x, x < 512 → cntP (fun i => hasB (nI (3072 + x)) (nI i)) 12 0 (nI 0) = bcI (nI (3072 + x)) := by decide +kernel
theorem bc_n7 : ∀ x, x < 512 → cntP (fun i => hasB (nI (3584 + x)) (nI i)) 12 0 (nI 0) = bcI (nI (3584 + x)) := by decide +kernel
theorem bc_n {x : Nat} (h : x < 4096) : cntP (fun i => hasB (nI x) (nI i)) 12 0 (nI 0) = bcI (nI x) := by
  obtain ⟨k, hk, e⟩ : ∃ k, k < 512 ∧ x = 512 * (x / 512) + k := ⟨x % 512, Nat.mod_lt _ (by decide), by omega⟩
  rcases (show x / 512 = 0 ∨ x / 512 = 1 ∨ x / 512 = 2 ∨ x / 512 = 3 ∨ x / 512 = 4 ∨ x / 512 = 5 ∨ x / 512 = 6 ∨ x / 512 = 7 by omega) with q | q | q | q | q | q | q | q <;> rw [q] at e <;> subst e
  · exact bc_n0 k hk
  · exact bc_n1 k hk
  · exact bc_n2 k hk
  · exact bc_n3 k hk
  · exact bc_n4 k hk
  · exact bc_n5 k hk
  · exact bc_n6 k hk
  · exact bc_n7 k hk
/-- fewer SIGNS, no more of them -/
theorem bc_mono {x y : Nat} (hx : x < 4096) (hy : y < 4096) (h : ∀ i, i < 32 → bt (nI x) i = true → bt (nI y) i = true) : ∃ a c, a ≤ c ∧ c ≤ 12 ∧ bcI (nI x) = nI a ∧ bcI (nI y) = nI c := by
  obtain ⟨a, c, h1, h2, h3, h4⟩ := cnt_le (P := fun i => hasB (nI x) (nI i)) (Q := fun i => hasB (nI y) (nI i)) (fun i hi q => by rw [hasB_bt hi] at q ⊢; exact h i hi q) 12 0 0 0 (by omega) (by omega)
  rw [bc_n hx] at h3
  rw [bc_n hy] at h4
  exact ⟨a, c, h1, by omega, h3, h4⟩
theorem bc_12 {x : Nat} (hx : x < 4096) : ∃ a, a ≤ 12 ∧ bcI (nI x) = nI a := by
  obtain ⟨a, c, h1, h2, h3, h4⟩ := bc_mono hx hx (fun _ _ q => q)
  exact ⟨a, by omega, h3⟩
/-- the least of its kind: it matters not that more is passed over, if there is one as good ahead of it -/
theorem bst_eq {sk sk' P : Nat → Bool} {N : Nat} (h1 : ∀ i, i < N → sk i = true → sk' i = true) (h2 : ∀ i, i < N → sk' i = true → sk i = false → P i = true → ∃ j, j < i ∧ sk j = false ∧ P j = true ∧ bcI (nI j) ≤ bcI (nI i)) : ∀ (m i : Nat) (z f : Int32), i + m ≤ N → ((z = -1 ∧ ∀ j, j < N → ¬ f ≤ bcI (nI j)) ∨ (¬ z = -1 ∧ f = bcI z)) → (∀ j, j < i → sk j = false → P j = true → f ≤ bcI (nI j)) → N < 2 ^ 31 → bstF sk P m i z f = bstM sk' P m i z := by
  intro m
  induction m with
  | zero => intro i z f _ _ _ _; rfl
  | succ m ih =>
    intro i z f hi hz hj hN
    rw [bstF, bstM]
    by_cases c1 : sk i = true
    · rw [if_pos (Or.inl c1), if_pos (Or.inl (h1 i (by omega) c1))]
      refine ih (i + 1) z f (by omega) hz (fun j a c e => ?_) hN
      by_cases ej : j = i
      · subst ej; rw [c1] at c; cases c
      · exact hj j (by omega) c e
    · have c1' : sk i = false := by cases q : sk i; rfl; exact absurd q c1
      by_cases c2 : f ≤ bcI (nI i)
      · rw [if_pos (Or.inr c2)]
        have : sk' i = true ∨ (¬ z = -1 ∧ bcI z ≤ bcI (nI i)) := by
          rcases hz with ⟨z1, z2⟩ | ⟨z1, z2⟩
          · exact absurd c2 (z2 i (by omega))
          · exact Or.inr ⟨z1, by rw [← z2]; exact c2⟩
        rw [if_pos this]
        refine ih (i + 1) z f (by omega) hz (fun j a c e => ?_) hN
        by_cases ej : j = i
        · subst ej; exact c2
        · exact hj j (by omega) c e
      · rw [if_neg (fun q => q.elim c1 c2)]
        by_cases c3 : P i = true
        · have c4 : ¬ sk' i = true := by
            intro q
            obtain ⟨j, g1, g2, g3, g4⟩ := h2 i (by omega) q c1' c3
            exact c2 (Int32.le_trans (hj j g1 g2 g3) g4)
          have c5 : ¬ (sk' i = true ∨ (¬ z = -1 ∧ bcI z ≤ bcI (nI i))) := by
            rintro (q | ⟨q1, q2⟩)
            · exact c4 q
            · rcases hz with ⟨z1, z2⟩ | ⟨z1, z2⟩
              · exact q1 z1
              · exact c2 (by rw [z2]; exact q2)
          rw [if_pos c3, if_neg c5, if_pos c3]
          refine ih (i + 1) _ _ (by omega) (Or.inr ⟨nI_m1 (by omega), rfl⟩) (fun j a c e => ?_) hN
          by_cases ej : j = i
          · subst ej; exact Int32.le_refl _
          · exact Int32.le_trans (Int32.le_of_lt (Int32.not_le.mp c2)) (hj j (by omega) c e)
        · rw [if_neg c3]
          have go : bstF sk P m (i + 1) z f = bstM sk' P m (i + 1) z := by
            refine ih (i + 1) z f (by omega) hz (fun j a c e => ?_) hN
            by_cases ej : j = i
            · subst ej; exact absurd e c3
            · exact hj j (by omega) c e
          rw [go]
          by_cases c6 : sk' i = true ∨ (¬ z = -1 ∧ bcI z ≤ bcI (nI i))
          · rw [if_pos c6]
          · rw [if_neg c6, if_neg c3]
end R6
