/-! what a laying is, ship by ship -/
def pHas (d : Nat → Nat → Nat) (bl t a : Nat) : Prop := ∀ i j, a / 3 ≤ i → i < a / 3 + d 6 t → a % 3 ≤ j → j < a % 3 + d 7 t → bl.testBit (3 * i + j) = false
def pSol (d : Nat → Nat → Nat) (g ch set s bl : Nat) (at9 : Nat → Nat) : Prop := ∀ t, s ≤ t → t < 4 → set.testBit t = true → pStand d ch t (at9 t / 3) (at9 t % 3) ∧ pHas d bl t (at9 t) ∧ ∀ u, s ≤ u → u < t → set.testBit u = true → pClear d g t (at9 t / 3) (at9 t % 3) u (at9 u / 3) (at9 u % 3)
def pFirst (d : Nat → Nat → Nat) (g ch set s bl : Nat) (at9 : Nat → Nat) : Prop := pSol d g ch set s bl at9 ∧ ∀ at8, pSol d g ch set s bl at8 → ∀ t, s ≤ t → t < 4 → set.testBit t = true → (∀ u, s ≤ u → u < t → set.testBit u = true → at8 u = at9 u) → at9 t ≤ at8 t
/-- what holds of the numbers while ships are laid -/
def pEnv (d : Nat → Nat → Nat) (ch set : Nat) : Prop := d 0 ch ≤ 8 ∧ d 1 ch ≤ 3 ∧ ∀ t, t < 4 → set.testBit t = true → 1 ≤ d 6 t ∧ 1 ≤ d 7 t
theorem sol_out {d : Nat → Nat → Nat} {g ch set s bl : Nat} (h : set.testBit s = false) (at9 : Nat → Nat) : pSol d g ch set s bl at9 ↔ pSol d g ch set (s + 1) bl at9 := by
  have ne : ∀ t, set.testBit t = true → t ≠ s := fun t ht e => by rw [e, h] at ht; cases ht
  constructor
  · intro H t h1 h2 h3
    obtain ⟨a, b, c⟩ := H t (by omega) h2 h3
    exact ⟨a, b, fun u h4 h5 h6 => c u (by omega) h5 h6⟩
  · intro H t h1 h2 h3
    have := ne t h3
    obtain ⟨a, b, c⟩ := H t (by omega) h2 h3
    exact ⟨a, b, fun u h4 h5 h6 => c u (by have := ne u h6; omega) h5 h6⟩
theorem sol_in {d : Nat → Nat → Nat} {g ch set s bl : Nat} (E : pEnv d ch set) (hs : s < 4) (h : set.testBit s = true) (at9 : Nat → Nat) : pSol d g ch set s bl at9 ↔ (pStand d ch s (at9 s / 3) (at9 s % 3) ∧ pHas d bl s (at9 s)) ∧ pSol d g ch set (s + 1) (bl ||| nearN d g s (at9 s / 3) (at9 s % 3)) at9 := by
  have nc : ∀ t, t < 4 → set.testBit t = true → pStand d ch t (at9 t / 3) (at9 t % 3) → (pHas d (nearN d g s (at9 s / 3) (at9 s % 3)) t (at9 t) ↔ pClear d g t (at9 t / 3) (at9 t % 3) s (at9 s / 3) (at9 s % 3)) := fun t h2 h3 h4 =>
    near_clear (E.2.2 s hs h).1 (E.2.2 s hs h).2 (E.2.2 t h2 h3).1 (E.2.2 t h2 h3).2 (Nat.le_trans h4.1 E.1) (Nat.le_trans h4.2.1 E.2.1)
  constructor
  · intro H
    refine ⟨⟨(H s (Nat.le_refl _) hs h).1, (H s (Nat.le_refl _) hs h).2.1⟩, fun t h1 h2 h3 => ?_⟩
    obtain ⟨a, b, c⟩ := H t (by omega) h2 h3
    refine ⟨a, fun i j i1 i2 i3 i4 => ?_, fun u h4 h5 h6 => c u (by omega) h5 h6⟩
    rw [Nat.testBit_or, b i j i1 i2 i3 i4, (nc t h2 h3 a).mpr (c s (Nat.le_refl _) (by omega) h) i j i1 i2 i3 i4]
    rfl
  · rintro ⟨⟨p1, p2⟩, H⟩ t h1 h2 h3
    rcases Nat.eq_or_lt_of_le h1 with rfl | h1
    · exact ⟨p1, p2, fun u h4 h5 _ => by omega⟩
    · obtain ⟨a, b, c⟩ := H t h1 h2 h3
      have bb : pHas d bl t (at9 t) ∧ pHas d (nearN d g s (at9 s / 3) (at9 s % 3)) t (at9 t) := by
        refine ⟨fun i j i1 i2 i3 i4 => ?_, fun i j i1 i2 i3 i4 => ?_⟩
        · have := b i j i1 i2 i3 i4
          rw [Nat.testBit_or, Bool.or_eq_false_iff] at this
          exact this.1
        · have := b i j i1 i2 i3 i4
          rw [Nat.testBit_or, Bool.or_eq_false_iff] at this
          exact this.2
      refine ⟨a, bb.1, fun u h4 h5 h6 => ?_⟩
      rcases Nat.eq_or_lt_of_le h4 with rfl | h4
      · exact (nc t h2 h3 a).mp bb.2
      · exact c u h4 h5 h6
theorem first_out {d : Nat → Nat → Nat} {g ch set s bl : Nat} (h : set.testBit s = false) {at9 : Nat → Nat} (H : pFirst d g ch set (s + 1) bl at9) : pFirst d g ch set s bl at9 := by
  refine ⟨(sol_out h at9).mpr H.1, fun at8 h8 t h1 h2 h3 h4 => ?_⟩
  have : t ≠ s := fun e => by rw [e, h] at h3; cases h3
  exact H.2 at8 ((sol_out h at8).mp h8) t (by omega) h2 h3 (fun u h5 h6 h7 => h4 u (by omega) h6 h7)
/-- only what the ships from s on have counts -/
theorem sol_congr {d : Nat → Nat → Nat} {g ch set s bl : Nat} {at9 at8 : Nat → Nat} (h : ∀ t, s ≤ t → at9 t = at8 t) (H : pSol d g ch set s bl at9) : pSol d g ch set s bl at8 := by
  intro t h1 h2 h3
  obtain ⟨a, b, c⟩ := H t h1 h2 h3
  rw [h t h1] at a b c
  exact ⟨a, b, fun u h4 h5 h6 => by rw [← h u h4]; exact c u h4 h5 h6⟩
def putAt (at9 : Nat → Nat) (s a : Nat) : Nat → Nat := fun t => if t = s then a else at9 t
theorem putAt_same (at9 : Nat → Nat) (s a : Nat) : putAt at9 s a s = a := if_pos rfl
theorem putAt_ne (at9 : Nat → Nat) {s a t : Nat} (h : t ≠ s) : putAt at9 s a t = at9 t := if_neg h
theorem first_in {d : Nat → Nat → Nat} {g ch set s bl a : Nat} (E : pEnv d ch set) (hs : s < 4) (h : set.testBit s = true) {at9 : Nat → Nat} (hp : pStand d ch s (a / 3) (a % 3)) (hb : pHas d bl s a) (H : pFirst d g ch set (s + 1) (bl ||| nearN d g s (a / 3) (a % 3)) at9) (hno : ∀ at8, pSol d g ch set s bl at8 → a ≤ at8 s) : pFirst d g ch set s bl (putAt at9 s a) := by
  have e1 : ∀ t, s + 1 ≤ t → at9 t = putAt at9 s a t := fun t ht => (putAt_ne at9 (by omega)).symm
  have e2 : putAt at9 s a s = a := putAt_same at9 s a
  refine ⟨(sol_in E hs h _).mpr ⟨by rw [e2]; exact ⟨hp, hb⟩, by rw [e2]; exact sol_congr e1 H.1⟩, fun at8 h8 t h1 h2 h3 h4 => ?_⟩
  rcases Nat.eq_or_lt_of_le h1 with rfl | h1
  · rw [e2]; exact hno at8 h8
  · have e3 := h4 s (Nat.le_refl _) h1 h
    rw [e2] at e3
    rw [← e1 t h1]
    have h9 := ((sol_in E hs h at8).mp h8).2
    rw [e3] at h9
    exact H.2 at8 h9 t h1 h2 h3 (fun u h5 h6 h7 => by rw [h4 u (by omega) h6 h7, ← e1 u h5])
