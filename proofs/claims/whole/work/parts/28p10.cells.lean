/-! sets of cells as numbers -/
theorem q_sl : ∀ n, n < 32 → ((nI n &&& 31).toBitVec.smod 32).toNat = n := by decide
theorem q_or (a b : Nat) : nI a ||| nI b = nI (a ||| b) := by
  apply Int32.toBitVec_inj.mp
  simp [nI, Int32.toBitVec_or]
theorem q_and (a b : Nat) : nI a &&& nI b = nI (a &&& b) := by
  apply Int32.toBitVec_inj.mp
  simp [nI, Int32.toBitVec_and]
theorem q_bit {k : Nat} (h : k < 31) : (1 : Int32) <<< (nI k &&& 31) = nI (2 ^ k) := by
  have := pk_shlN (n := 1) (nI k &&& 31) k (q_sl k (by omega)) (by
    have : 2 ^ k ≤ 2 ^ 30 := Nat.pow_le_pow_right (by decide) (by omega)
    omega)
  rw [Nat.one_mul] at this
  exact this
theorem q_shl {m k : Nat} (hk : k < 31) (h : m * 2 ^ k < 2 ^ 31) : nI m <<< (nI k &&& 31) = nI (m * 2 ^ k) := pk_shlN (nI k &&& 31) k (q_sl k (by omega)) (by omega)
theorem q_3xy (x y : Nat) : (3 : Int32) * nI x + nI y = nI (3 * x + y) := by
  show nI 3 * nI x + nI y = _
  rw [pk_mul, nI_add]
/-- the cells of one column from y on -/
def colN (x ty : Nat) : Nat → Nat → Nat → Nat
  | 0, _, m => m
  | n + 1, y, m => if y < ty ∧ y < 3 then colN x ty n (y + 1) (m ||| 2 ^ (3 * x + y)) else m
def cellN (tx fy ty : Nat) : Nat → Nat → Nat → Nat
  | 0, _, m => m
  | n + 1, x, m => if x < tx ∧ x < 8 then cellN tx fy ty n (x + 1) (colN x ty 4 fy m) else m
theorem or_lt {a b n : Nat} (ha : a < 2 ^ n) (hb : b < 2 ^ n) : a ||| b < 2 ^ n := Nat.or_lt_two_pow ha hb
theorem col_lt {x ty : Nat} (hx : x < 8) : ∀ n y m, m < 2 ^ 24 → colN x ty n y m < 2 ^ 24 := by
  intro n
  induction n with
  | zero => intro y m h; exact h
  | succ n ih =>
    intro y m h
    unfold colN
    split
    · rename_i hy
      exact ih _ _ (or_lt h (Nat.pow_lt_pow_right (by decide) (by omega)))
    · exact h
theorem cell_lt {tx fy ty : Nat} : ∀ n x m, m < 2 ^ 24 → cellN tx fy ty n x m < 2 ^ 24 := by
  intro n
  induction n with
  | zero => intro x m h; exact h
  | succ n ih =>
    intro x m h
    unfold cellN
    split
    · rename_i hx
      exact ih _ _ (col_lt hx.2 _ _ _ h)
    · exact h
theorem col_eq {tx ty x : Nat} {fy : Int32} {st : St} (hty : ty < 2 ^ 30) (hx : x < 8) (K : Int32 → Int32 → Int32 → Int32 → Int32 → St → Option (Int32 × St)) : ∀ (n : Nat) (y m : Nat), y ≤ 3 → 3 < y + n → ∀ k, 3 < y + k → f_Be_cells_30 K n (nI tx) fy (nI ty) (nI m) (nI x) (nI y) st = f_Be_cells_62 K (nI tx) fy (nI ty) (nI (colN x ty k y m)) (nI x) st := by
  intro n
  induction n with
  | zero => intro y m h1 h2; omega
  | succ n ih =>
    intro y m h1 h2 k hk
    show b_Be_cells_30 K (f_Be_cells_30 K n) (nI tx) fy (nI ty) (nI m) (nI x) (nI y) st = _
    unfold b_Be_cells_30
    obtain ⟨k, rfl⟩ : ∃ k', k = k' + 1 := ⟨k - 1, by omega⟩
    unfold colN
    by_cases h3 : ty ≤ y
    · rw [if_pos (nI_le h3 (by omega)), if_neg (by omega)]
    · rw [if_neg (fun h => h3 ((nI_leI (by omega) (by omega)).mp h))]
      by_cases h4 : 3 ≤ y
      · rw [if_pos (show (3 : Int32) ≤ nI y from nI_le (a := 3) h4 (by omega)), if_neg (by omega)]
      · rw [if_neg (show ¬ (3 : Int32) ≤ nI y from fun h => h4 ((nI_leI (a := 3) (by decide) (by omega)).mp h)), if_pos ⟨by omega, by omega⟩]
        unfold xlet
        rw [q_3xy, q_bit (by omega), q_or, nI_1]
        exact ih (y + 1) _ (by omega) (by omega) k (by omega)
theorem cell_eq {tx fy ty : Nat} {st : St} (htx : tx < 2 ^ 30) (hfy : fy ≤ 3) (hty : ty < 2 ^ 30) {fyI : Int32} (hf : (if fyI < 0 then 0 else fyI) = nI fy) : ∀ (n : Nat) (x m : Nat), x ≤ 8 → 8 < x + n → ∀ k, 8 < x + k → f_Be_cells_10 n (nI tx) fyI (nI ty) (nI m) (nI x) st = some (nI (cellN tx fy ty k x m), st) := by
  intro n
  induction n with
  | zero => intro x m h1 h2; omega
  | succ n ih =>
    intro x m h1 h2 k hk
    show b_Be_cells_10 (f_Be_cells_10 n) (nI tx) fyI (nI ty) (nI m) (nI x) st = _
    unfold b_Be_cells_10
    obtain ⟨k, rfl⟩ : ∃ k', k = k' + 1 := ⟨k - 1, by omega⟩
    unfold cellN
    by_cases h3 : tx ≤ x
    · rw [if_pos (nI_le h3 (by omega)), if_neg (by omega)]
    · rw [if_neg (fun h => h3 ((nI_leI (by omega) (by omega)).mp h))]
      by_cases h4 : 8 ≤ x
      · rw [if_pos (show (8 : Int32) ≤ nI x from nI_le (a := 8) h4 (by omega)), if_neg (by omega)]
      · rw [if_neg (show ¬ (8 : Int32) ≤ nI x from fun h => h4 ((nI_leI (a := 8) (by decide) (by omega)).mp h)), if_pos (show x < tx ∧ x < 8 from ⟨by omega, by omega⟩)]
        unfold xlet
        rw [hf]
        refine (col_eq (x := x) hty (by omega) _ 40 fy m hfy (by omega) 4 (by omega)).trans ?_
        unfold f_Be_cells_62
        rw [nI_1]
        exact ih (x + 1) _ (by omega) (by omega) k (by omega)
/-- which cells they are -/
theorem col_bit {x ty : Nat} (hx : x < 8) : ∀ (n y m : Nat), 3 < y + n → ∀ i j, j < 3 → (colN x ty n y m).testBit (3 * i + j) = (m.testBit (3 * i + j) || decide (i = x ∧ y ≤ j ∧ j < ty)) := by
  intro n
  induction n with
  | zero =>
    intro y m h i j hj
    unfold colN
    rw [show decide (i = x ∧ y ≤ j ∧ j < ty) = false from decide_eq_false (by omega), Bool.or_false]
  | succ n ih =>
    intro y m h i j hj
    unfold colN
    split
    · rename_i hy
      rw [ih (y + 1) _ (by omega) i j hj, Nat.testBit_or, Nat.testBit_two_pow, Bool.or_assoc]
      congr 1
      rw [← Bool.decide_or]
      apply decide_eq_decide.mpr
      constructor
      · rintro (h1 | h1)
        · have : i = x ∧ j = y := by omega
          omega
        · omega
      · intro h1
        by_cases h2 : j = y
        · left; omega
        · right; omega
    · rw [show decide (i = x ∧ y ≤ j ∧ j < ty) = false from decide_eq_false (by omega), Bool.or_false]
theorem cell_bit {tx fy ty : Nat} : ∀ (n x m : Nat), 8 < x + n → ∀ i j, i < 8 → j < 3 → (cellN tx fy ty n x m).testBit (3 * i + j) = (m.testBit (3 * i + j) || decide (x ≤ i ∧ i < tx ∧ fy ≤ j ∧ j < ty)) := by
  intro n
  induction n with
  | zero =>
    intro x m h i j hi hj
    unfold cellN
    rw [show decide (x ≤ i ∧ i < tx ∧ fy ≤ j ∧ j < ty) = false from decide_eq_false (by omega), Bool.or_false]
  | succ n ih =>
    intro x m h i j hi hj
    unfold cellN
    split
    · rename_i hx
      rw [ih (x + 1) _ (by omega) i j hi hj, col_bit hx.2 4 fy m (by omega) i j hj, Bool.or_assoc]
      congr 1
      rw [← Bool.decide_or]
      apply decide_eq_decide.mpr
      omega
    · rw [show decide (x ≤ i ∧ i < tx ∧ fy ≤ j ∧ j < ty) = false from decide_eq_false (by omega), Bool.or_false]
/-- THE CLASS'S cells: a number below 2^24 with just the rectangle's bits -/
def rectN (fx tx fy ty : Nat) : Nat := cellN tx fy ty 9 fx 0
theorem rect_lt (fx tx fy ty : Nat) : rectN fx tx fy ty < 2 ^ 24 := cell_lt _ _ _ (by decide)
theorem rect_bit (fx tx fy ty : Nat) {i j : Nat} (hi : i < 8) (hj : j < 3) : (rectN fx tx fy ty).testBit (3 * i + j) = decide (fx ≤ i ∧ i < tx ∧ fy ≤ j ∧ j < ty) := by
  unfold rectN
  rcases Nat.lt_or_ge fx 8 with h | h
  · rw [cell_bit 9 fx 0 (by omega) i j hi hj, Nat.zero_testBit, Bool.false_or]
  · rw [cell_bit 9 fx 0 (by omega) i j hi hj, Nat.zero_testBit, Bool.false_or]
theorem cells_eq {fx tx fy ty : Nat} {fxI fyI : Int32} {st : St} (htx : tx < 2 ^ 30) (hty : ty < 2 ^ 30) (hfx : fx ≤ 8) (hfy : fy ≤ 3) (hx : (if fxI < 0 then 0 else fxI) = nI fx) (hy : (if fyI < 0 then 0 else fyI) = nI fy) : f_Be_cells fxI (nI tx) fyI (nI ty) st = some (nI (rectN fx tx fy ty), st) := by
  unfold f_Be_cells xlet
  rw [hx]
  exact cell_eq htx hfy hty hy 40 fx 0 hfx (by omega) 9 (by omega)
