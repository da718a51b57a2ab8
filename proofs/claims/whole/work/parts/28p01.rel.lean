/-! THE PURE PART: class and reference over the same numbers. -/
/-- the numbers: chambers, ships, spans, gap, over, and the eleven tables -/
def AbOk (nC nS nP g o : Nat) (d : Nat → Nat → Nat) : Prop := nC ≤ 2 ∧ nS ≤ 4 ∧ nP ≤ 8 ∧ g ≤ 3 ∧ o ≤ 3 ∧ (∀ i, i < nC → 1 ≤ d 0 i ∧ d 0 i ≤ 8 ∧ 1 ≤ d 1 i ∧ d 1 i ≤ 3 ∧ 1 ≤ d 2 i ∧ d 2 i ≤ 60) ∧ (∀ i, i < nP → d 3 i < nC ∧ d 4 i < d 5 i ∧ d 5 i ≤ 10000) ∧ (∀ i, i < nS → 1 ≤ d 6 i ∧ d 6 i ≤ 8 ∧ 1 ≤ d 7 i ∧ d 7 i ≤ 3 ∧ d 8 i ≤ 1000 ∧ d 9 i ≤ 1 ∧ d 10 i ≤ 2)
def RC (nC nS nP g o : Nat) (d : Nat → Nat → Nat) (pl : Nat) (c : St) : Prop := c.1 0 = nI nC ∧ c.1 1 = nI nP ∧ c.1 2 = nI nS ∧ c.1 3 = nI g ∧ c.1 8 = nI o ∧ c.1 7 = nI pl ∧ ∀ k, k ≤ 10 → ∀ i, c.2 k i = nI (d k i)
def RM (nC nS nP g o : Nat) (d : Nat → Nat → Nat) (pl : Nat) (v : St) : Prop := v.1 1 = nI nC ∧ v.1 2 = nI nS ∧ v.1 3 = nI nP ∧ v.1 4 = nI g ∧ v.1 5 = nI o ∧ v.1 6 = nI pl ∧ ∀ k, k ≤ 10 → ∀ i, v.2 k i = nI (d k i)
/-- one ship may stand at x, y in a chamber -/
def pStand (d : Nat → Nat → Nat) (ch s x y : Nat) : Prop := x + d 6 s ≤ d 0 ch ∧ y + d 7 s ≤ d 1 ch ∧ (d 10 s = 0 → y = 0) ∧ (d 10 s = 1 → y + d 7 s = d 1 ch)
def pClear (d : Nat → Nat → Nat) (g s x y t u v : Nat) : Prop := x + d 6 s + g ≤ u ∨ u + d 6 t + g ≤ x ∨ y + d 7 s + g ≤ v ∨ v + d 7 t + g ≤ y
/-- the ships of a set (a number below 16) are laid: at s is 3 * x + y -/
def pLaid (d : Nat → Nat → Nat) (g ch set : Nat) (at9 : Nat → Nat) : Prop := ∀ s, s < 4 → set.testBit s = true → pStand d ch s (at9 s / 3) (at9 s % 3) ∧ at9 s < 24 ∧ ∀ t, t < s → set.testBit t = true → pClear d g s (at9 s / 3) (at9 s % 3) t (at9 t / 3) (at9 t % 3)
def pFits (d : Nat → Nat → Nat) (g ch set : Nat) : Prop := ∃ at9 : Nat → Nat, pLaid d g ch set at9
/-- the class's cache tells the truth -/
def Cache (nC nS : Nat) (d : Nat → Nat → Nat) (c : St) : Prop := ∀ g ch set, g < 4 → ch < 2 → set < 16 →
  (c.2 13 ((g * 2 + ch) * 16 + set) = 0 ∨ (ch < nC ∧ set < 2 ^ nS ∧ ((c.2 13 ((g * 2 + ch) * 16 + set) = 1 ∧ pFits d g ch set) ∨ (c.2 13 ((g * 2 + ch) * 16 + set) = 2 ∧ ¬ pFits d g ch set))))
/-- both hold the same plan -/
def PlanOk (nC nS : Nat) (d : Nat → Nat → Nat) (c v : St) : Prop := ∃ b ch r : Nat → Nat, (∀ s, s < nS → c.2 17 s = nI (b s) ∧ c.2 18 s = nI (ch s) ∧ c.2 19 s = nI (r s) ∧ v.2 16 s = nI (b s) ∧ v.2 15 s = nI (4 * ch s + r s) ∧ ch s < nC ∧ r s < 4 ∧ b s < 20000 ∧ d 8 s ≤ b s) ∧
  (∀ s t, s < nS → t < nS → ch s = ch t → r s = r t → d 9 s = d 9 t ∧ b s = b t) ∧ (∀ s, s < nS → ∀ k, k < r s → ∃ t, t < nS ∧ ch t = ch s ∧ r t = k)
def Rel (c v : St) : Prop := ∃ (nC nS nP g o : Nat) (d : Nat → Nat → Nat) (pl : Nat), AbOk nC nS nP g o d ∧ pl ≤ 1 ∧ RC nC nS nP g o d pl c ∧ RM nC nS nP g o d pl v ∧ Cache nC nS d c ∧ (pl = 1 → PlanOk nC nS d c v)
/-- what a pair of calls answers, of methods that may throw: tag, answer; 'code' turns a tag into the reference's number -/
def Sim (code : Nat → Int32) (fc : Option ((Nat × Int32) × St)) (fm : Option (Int32 × St)) : Prop := ∃ (k : Nat) (r : Int32) (c' : St) (r' : Int32) (v' : St), fc = some ((k, r), c') ∧ fm = some (r', v') ∧ v'.1 0 = code k ∧ (k = 0 → r = r') ∧ Rel c' v'
/-- of methods that throw nothing -/
def Sim0 (fc fm : Option (Int32 × St)) : Prop := ∃ (r : Int32) (c' v' : St), fc = some (r, c') ∧ fm = some (r, v') ∧ Rel c' v'
theorem sI_at (st : St) (k : Nat) (x : Int32) (j : Nat) : (sI st k x).1 j = if j = k then x else st.1 j := rfl
theorem sI_arr (st : St) (k : Nat) (x : Int32) : (sI st k x).2 = st.2 := rfl
theorem sA_int (st : St) (k i : Nat) (x : Int32) : (sA st k i x).1 = st.1 := rfl
theorem sA_at (st : St) (k i : Nat) (x : Int32) (j n : Nat) : (sA st k i x).2 j n = if j = k then (if n = i then x else st.2 k n) else st.2 j n := by
  show (if j = k then upd (st.2 k) i x else st.2 j) n = _
  by_cases h : j = k
  · rw [if_pos h, if_pos h]; rfl
  · rw [if_neg h, if_neg h]
theorem within_eq (a b e : Int32) (st : St) : f_LR_within a b e st = some (if b ≤ a ∧ a ≤ e then 1 else 0, st) := by
  unfold f_LR_within
  by_cases h1 : a < b
  · rw [if_pos h1, if_neg (fun h => Int32.not_le.mpr h1 h.1)]
  · rw [if_neg h1]
    by_cases h2 : e < a
    · rw [if_pos h2, if_neg (fun h => Int32.not_le.mpr h2 h.2)]
    · rw [if_neg h2, if_pos ⟨Int32.not_lt.mp h1, Int32.not_lt.mp h2⟩]
theorem in_eq (a b e : Int32) (st : St) : f_Mo_in a b e st = some (if b ≤ a ∧ a ≤ e then 1 else 0, st) := by
  unfold f_Mo_in
  by_cases h1 : a < b
  · rw [if_pos h1, if_neg (fun h => Int32.not_le.mpr h1 h.1)]
  · rw [if_neg h1]
    by_cases h2 : e < a
    · rw [if_pos h2, if_neg (fun h => Int32.not_le.mpr h2 h.2)]
    · rw [if_neg h2, if_pos ⟨Int32.not_lt.mp h1, Int32.not_lt.mp h2⟩]
/-- a number between two small ones -/
theorem in_nat {a : Int32} {lo hi : Nat} (hlo : lo < 2 ^ 31) (hhi : hi < 2 ^ 31) (h : nI lo ≤ a ∧ a ≤ nI hi) : ∃ n : Nat, lo ≤ n ∧ n ≤ hi ∧ a = nI n := by
  obtain ⟨h1, h2⟩ := h
  have h0 : ¬ a < 0 := fun h9 => by
    have := Int32.lt_iff_toInt_lt.mp h9
    have := Int32.le_iff_toInt_le.mp h1
    rw [nI_toInt hlo] at this
    simp at *
    omega
  obtain ⟨j, hj, rfl⟩ := nI_of h0
  exact ⟨j, (nI_leI hlo hj).mp h1, (nI_leI hj hhi).mp h2, rfl⟩
theorem one_ne : ¬ ((1 : Int32) = 0) := by decide
