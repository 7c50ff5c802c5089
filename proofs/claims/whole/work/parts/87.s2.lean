/-! ===== class: why, the fewest steps ===== -/
section S2
variable {T : Nat → Nat → Int32} {n a : Nat}
theorem bc_mis : ∀ x, x < 1024 → bcI (nI x) = nI (10 - mis x) := by decide +kernel
/-- z is the least number of steps by which t is reached among those below i, or -1 -/
def Lst (T : Nat → Nat → Int32) (n a t i : Nat) (z : Int32) : Prop := (z = -1 ∧ ∀ k y, y < i → RchN T n a k y → bt (nI y) t = false) ∨ ∃ k, k ≤ 10 ∧ z = nI k ∧ (∃ y, y < i ∧ RchN T n a k y ∧ bt (nI y) t = true) ∧ ∀ k' y, y < i → RchN T n a k' y → bt (nI y) t = true → k ≤ k'
theorem Lst_uniq {t i : Nat} {z z' : Int32} (h : Lst T n a t i z) (h' : Lst T n a t i z') : z = z' := by
  rcases h with ⟨h1, h2⟩ | ⟨k, h0, h1, ⟨y, y1, y2, y3⟩, h2⟩
  · rcases h' with ⟨g1, -⟩ | ⟨k, -, g1, ⟨y, y1, y2, y3⟩, -⟩
    · rw [h1, g1]
    · rw [h2 k y y1 y2] at y3; cases y3
  · rcases h' with ⟨g1, g2⟩ | ⟨k', -, g1, ⟨y', y1', y2', y3'⟩, g2⟩
    · rw [g2 k y y1 y2] at y3; cases y3
    · have a1 := h2 k' y' y1' y2' y3'
      have a2 := g2 k y y1 y2 y3
      rw [h1, g1, show k = k' by omega]
end S2
