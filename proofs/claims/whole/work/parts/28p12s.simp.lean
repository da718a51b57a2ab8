/-! numbers: rows for simp, with omega as discharger -/
theorem z0 : (0 : Int32) = nI 0 := rfl
theorem z1 : (1 : Int32) = nI 1 := rfl
theorem z2 : (2 : Int32) = nI 2 := rfl
theorem z3 : (3 : Int32) = nI 3 := rfl
theorem z4 : (4 : Int32) = nI 4 := rfl
theorem z5 : (5 : Int32) = nI 5 := rfl
theorem z6 : (6 : Int32) = nI 6 := rfl
theorem z7 : (7 : Int32) = nI 7 := rfl
theorem z8 : (8 : Int32) = nI 8 := rfl
theorem z9 : (9 : Int32) = nI 9 := rfl
theorem z16 : (16 : Int32) = nI 16 := rfl
theorem z24 : (24 : Int32) = nI 24 := rfl
theorem z31 : (31 : Int32) = nI 31 := rfl
theorem z32 : (32 : Int32) = nI 32 := rfl
theorem z128 : (128 : Int32) = nI 128 := rfl
theorem zFar : (1000000000 : Int32) = nI 1000000000 := rfl
theorem qin {n N : Nat} (hn : n < 2 ^ 31) (hN : N < 2 ^ 31) : xin (nI n) N ↔ n < N := by
  constructor
  · intro h
    have h' : ¬ (nI n < 0 ∨ N ≤ (nI n).toNatClampNeg) := h
    rw [nI_clamp hn] at h'
    rcases Nat.lt_or_ge n N with h9 | h9
    · exact h9
    · exact absurd (Or.inr h9) h'
  · intro h; exact vp_in_nI h hN
theorem qcl {n : Nat} (hn : n < 2 ^ 31) : (nI n).toNatClampNeg = n := nI_clamp hn
theorem qle {a b : Nat} (ha : a < 2 ^ 31) (hb : b < 2 ^ 31) : nI a ≤ nI b ↔ a ≤ b := nI_leI ha hb
theorem qlt {a b : Nat} (ha : a < 2 ^ 31) (hb : b < 2 ^ 31) : nI a < nI b ↔ a < b := nI_ltI ha hb
theorem qeq {a b : Nat} (ha : a < 2 ^ 31) (hb : b < 2 ^ 31) : nI a = nI b ↔ a = b := nI_eq ha hb
theorem qadd (a b : Nat) : nI a + nI b = nI (a + b) := nI_add a b
theorem qmul (a b : Nat) : nI a * nI b = nI (a * b) := pk_mul a b
theorem qsub {a b : Nat} (h : b ≤ a) : nI a - nI b = nI (a - b) := pk_sub h
theorem qdiv {a b : Nat} (ha : a < 2 ^ 31) (h0 : 0 < b) (hb : b < 2 ^ 31) : nI a / nI b = nI (a / b) := pk_div ha h0 hb
theorem qslt {a b x : Nat} (ha : a < 2 ^ 30) (hb : b < 2 ^ 30) (hx : x < 2 ^ 30) : nI a - nI b < nI x ↔ a < b + x := by
  rw [Int32.lt_iff_toInt_lt, pk_sub_toInt ha hb, nI_toInt (by omega)]
  omega
theorem qsle {a b x : Nat} (ha : a < 2 ^ 30) (hb : b < 2 ^ 30) (hx : x < 2 ^ 30) : nI x ≤ nI a - nI b ↔ b + x ≤ a := by
  rw [Int32.le_iff_toInt_le, pk_sub_toInt ha hb, nI_toInt (by omega)]
  omega
theorem qshr {set s : Nat} (hs : s < 31) (h : set < 2 ^ 31) : (nI set >>> (nI s &&& nI 31)) &&& nI 1 = nI (set / 2 ^ s % 2) := by
  rw [pk_shrN h (nI s &&& nI 31) s (q_sl s (by omega))]
  have h2 : set / 2 ^ s < 2 ^ 32 := Nat.lt_of_le_of_lt (Nat.div_le_self _ _) (by omega)
  exact pk_andN h2 1 (by decide)
theorem tb_div (set s : Nat) : set.testBit s = decide (set / 2 ^ s % 2 = 1) := by
  rw [Nat.testBit_eq_decide_div_mod_eq]
theorem qb1 {set s : Nat} (hs : s < 31) (h : set < 2 ^ 31) : ((nI set >>> (nI s &&& nI 31)) &&& nI 1 = nI 1) ↔ set.testBit s = true := by
  rw [qshr hs h, nI_eq (by omega) (by omega), tb_div]
  simp
theorem qb0 {set s : Nat} (hs : s < 31) (h : set < 2 ^ 31) : ((nI set >>> (nI s &&& nI 31)) &&& nI 1 = nI 0) ↔ set.testBit s = false := by
  rw [qshr hs h, nI_eq (by omega) (by omega), tb_div]
  simp
theorem qbit {k : Nat} (h : k < 31) : nI 1 <<< (nI k &&& nI 31) = nI (2 ^ k) := q_bit h
/-- a set of the four ships, by its bits -/
def mkS (P : Nat → Bool) : Nat := (P 0).toNat + 2 * (P 1).toNat + 4 * (P 2).toNat + 8 * (P 3).toNat
theorem mkS_bit (P : Nat → Bool) {s : Nat} (hs : s < 4) : (mkS P).testBit s = P s := by
  unfold mkS
  have : s = 0 ∨ s = 1 ∨ s = 2 ∨ s = 3 := by omega
  rcases this with rfl | rfl | rfl | rfl <;> cases P 0 <;> cases P 1 <;> cases P 2 <;> cases P 3 <;> rfl
theorem mkS_lt (P : Nat → Bool) : mkS P < 16 := by
  unfold mkS
  cases P 0 <;> cases P 1 <;> cases P 2 <;> cases P 3 <;> decide
theorem set_ext {a b : Nat} (ha : a < 16) (hb : b < 16) (h : ∀ s, s < 4 → a.testBit s = b.testBit s) : a = b := by
  apply Nat.eq_of_testBit_eq
  intro n
  rcases Nat.lt_or_ge n 4 with h9 | h9
  · exact h n h9
  · rw [Nat.testBit_lt_two_pow (Nat.lt_of_lt_of_le ha (Nat.pow_le_pow_right (n := 2) (by decide) h9)), Nat.testBit_lt_two_pow (Nat.lt_of_lt_of_le hb (Nat.pow_le_pow_right (n := 2) (by decide) h9))]
theorem bit_lt {nS set s : Nat} (hset : set < 2 ^ nS) (hb : set.testBit s = true) : s < nS := by
  rcases Nat.lt_or_ge s nS with h9 | h9
  · exact h9
  · rw [Nat.testBit_lt_two_pow (Nat.lt_of_lt_of_le hset (Nat.pow_le_pow_right (n := 2) (by decide) h9))] at hb
    cases hb
theorem pw_le {nS : Nat} (h : nS ≤ 4) : 2 ^ nS ≤ 16 := Nat.pow_le_pow_right (n := 2) (by decide) h
theorem set_ne0 {a : Nat} (h : a ≠ 0) : ∃ s, a.testBit s = true := by
  exact Nat.exists_testBit_of_ne_zero h
theorem xi {n N : Nat} (h : n < N) (hN : N < 2 ^ 31) {α : Type} (a b : α) : (if xin (nI n) N then a else b) = a := if_pos (vp_in_nI h hN)
theorem qrem {a b : Nat} (ha : a < 2 ^ 31) (h0 : 0 < b) (hb : b < 2 ^ 31) : nI a - nI a / nI b * nI b = nI (a % b) := pk_rem ha h0 hb
