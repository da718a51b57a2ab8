/-! rectangles of cells: when a hull is clear of a set -/
theorem and_zero_iff (a b : Nat) : a &&& b = 0 ↔ ∀ n, a.testBit n = true → b.testBit n = false := by
  constructor
  · intro h n h1
    have h2 : (a &&& b).testBit n = false := by rw [h]; exact Nat.zero_testBit n
    rw [Nat.testBit_and, h1, Bool.true_and] at h2
    exact h2
  · intro h
    apply Nat.eq_of_testBit_eq
    intro n
    rw [Nat.testBit_and, Nat.zero_testBit]
    cases h1 : a.testBit n
    · rfl
    · rw [h n h1]; rfl
theorem hull_bit {l w x y : Nat} (hl : x + l ≤ 8) (hw : y + w ≤ 3) (n : Nat) : (rectN 0 l 0 w * 2 ^ (3 * x + y)).testBit n = true ↔ ∃ i j, n = 3 * i + j ∧ x ≤ i ∧ i < x + l ∧ y ≤ j ∧ j < y + w := by
  rw [Nat.testBit_mul_two_pow]
  constructor
  · intro h
    simp only [Bool.and_eq_true, decide_eq_true_eq] at h
    obtain ⟨h1, h2⟩ := h
    have h3 : n - (3 * x + y) < 24 := by
      rcases Nat.lt_or_ge (n - (3 * x + y)) 24 with h9 | h9
      · exact h9
      · have := Nat.testBit_lt_two_pow (Nat.lt_of_lt_of_le (rect_lt 0 l 0 w) (Nat.pow_le_pow_right (by decide) h9))
        rw [h2] at this
        cases this
    have h4 : n - (3 * x + y) = 3 * ((n - (3 * x + y)) / 3) + (n - (3 * x + y)) % 3 := by omega
    rw [h4, rect_bit 0 l 0 w (by omega) (by omega)] at h2
    have h5 := of_decide_eq_true h2
    exact ⟨x + (n - (3 * x + y)) / 3, y + (n - (3 * x + y)) % 3, by omega, by omega, by omega, by omega, by omega⟩
  · rintro ⟨i, j, rfl, h1, h2, h3, h4⟩
    simp only [Bool.and_eq_true, decide_eq_true_eq]
    refine ⟨by omega, ?_⟩
    rw [show 3 * i + j - (3 * x + y) = 3 * (i - x) + (j - y) by omega, rect_bit 0 l 0 w (by omega) (by omega)]
    exact decide_eq_true (by omega)
/-- the class's test of a place -/
theorem hull_clear {l w x y m : Nat} (hl : x + l ≤ 8) (hw : y + w ≤ 3) : (rectN 0 l 0 w * 2 ^ (3 * x + y)) &&& m = 0 ↔ ∀ i j, x ≤ i → i < x + l → y ≤ j → j < y + w → m.testBit (3 * i + j) = false := by
  rw [and_zero_iff]
  constructor
  · intro h i j h1 h2 h3 h4
    exact h _ ((hull_bit hl hw _).mpr ⟨i, j, rfl, h1, h2, h3, h4⟩)
  · intro h n h1
    obtain ⟨i, j, rfl, h2, h3, h4, h5⟩ := (hull_bit hl hw n).mp h1
    exact h i j h2 h3 h4 h5
/-- the cells that a ship at x, y blocks for the others -/
def nearN (d : Nat → Nat → Nat) (g s x y : Nat) : Nat := rectN (x - g) (x + d 6 s + g) (y - g) (y + d 7 s + g)
theorem near_clear {d : Nat → Nat → Nat} {g s x y t u v : Nat} (hl : 1 ≤ d 6 s) (hw : 1 ≤ d 7 s) (hl' : 1 ≤ d 6 t) (hw' : 1 ≤ d 7 t) (h1 : u + d 6 t ≤ 8) (h2 : v + d 7 t ≤ 3) :
    (∀ i j, u ≤ i → i < u + d 6 t → v ≤ j → j < v + d 7 t → (nearN d g s x y).testBit (3 * i + j) = false) ↔ pClear d g t u v s x y := by
  unfold nearN pClear
  constructor
  · intro h
    by_cases c1 : u + d 6 t + g ≤ x
    · exact Or.inl c1
    · by_cases c2 : x + d 6 s + g ≤ u
      · exact Or.inr (Or.inl c2)
      · by_cases c3 : v + d 7 t + g ≤ y
        · exact Or.inr (Or.inr (Or.inl c3))
        · by_cases c4 : y + d 7 s + g ≤ v
          · exact Or.inr (Or.inr (Or.inr c4))
          · exfalso
            have h9 := h (max u (x - g)) (max v (y - g)) (by omega) (by omega) (by omega) (by omega)
            rw [rect_bit _ _ _ _ (by omega) (by omega)] at h9
            exact absurd (of_decide_eq_false h9) (by omega)
  · intro h i j h3 h4 h5 h6
    rw [rect_bit _ _ _ _ (by omega) (by omega)]
    exact decide_eq_false (by omega)
theorem clear_symm {d : Nat → Nat → Nat} {g s x y t u v : Nat} : pClear d g t u v s x y ↔ pClear d g s x y t u v := by
  unfold pClear
  omega
