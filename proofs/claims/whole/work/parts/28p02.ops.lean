/-! the simple operations -/
def updD (d : Nat → Nat → Nat) (k i x : Nat) : Nat → Nat → Nat := fun k' i' => if k' = k then (if i' = i then x else d k i') else d k' i'
def RAr (d : Nat → Nat → Nat) (c : St) : Prop := ∀ k, k ≤ 10 → ∀ i, c.2 k i = nI (d k i)
theorem RAr.sA {d : Nat → Nat → Nat} {c : St} (h : RAr d c) (k i x : Nat) : RAr (updD d k i x) (sA c k i (nI x)) := by
  intro k' hk i'
  rw [sA_at]
  unfold updD
  by_cases h1 : k' = k
  · rw [if_pos h1, if_pos h1]
    by_cases h2 : i' = i
    · rw [if_pos h2, if_pos h2]
    · rw [if_neg h2, if_neg h2, ← h1]; exact h k' hk i'
  · rw [if_neg h1, if_neg h1]; exact h k' hk i'
theorem RAr.sI {d : Nat → Nat → Nat} {c : St} (h : RAr d c) (k : Nat) (x : Int32) : RAr d (sI c k x) := h
theorem pFits_congr {d d' : Nat → Nat → Nat} {g ch set : Nat} (h0 : d 0 ch = d' 0 ch) (h1 : d 1 ch = d' 1 ch) (hs : ∀ s, s < 4 → set.testBit s = true → d 6 s = d' 6 s ∧ d 7 s = d' 7 s ∧ d 10 s = d' 10 s) : pFits d g ch set → pFits d' g ch set := by
  rintro ⟨at9, h⟩
  refine ⟨at9, fun s hs4 hb => ?_⟩
  obtain ⟨⟨a1, a2, a3, a4⟩, a5, a6⟩ := h s hs4 hb
  obtain ⟨e1, e2, e3⟩ := hs s hs4 hb
  refine ⟨⟨by rw [← e1, ← h0]; exact a1, by rw [← e2, ← h1]; exact a2, by rw [← e3]; exact a3, by rw [← e3, ← e2, ← h1]; exact a4⟩, a5, fun t ht hbt => ?_⟩
  obtain ⟨f1, f2, -⟩ := hs t (by omega) hbt
  have := a6 t ht hbt
  unfold pClear at this ⊢
  rw [← e1, ← e2, ← f1, ← f2]
  exact this
theorem Cache_congr {nC nC' nS nS' : Nat} {d d' : Nat → Nat → Nat} {c c' : St} (h : Cache nC nS d c) (hf : c'.2 13 = c.2 13) (hC : nC ≤ nC') (hS : nS ≤ nS') (hc : ∀ ch, ch < nC → d 0 ch = d' 0 ch ∧ d 1 ch = d' 1 ch) (hs : ∀ s, s < nS → d 6 s = d' 6 s ∧ d 7 s = d' 7 s ∧ d 10 s = d' 10 s) : Cache nC' nS' d' c' := by
  intro g ch set h1 h2 h3
  rw [hf]
  rcases h g ch set h1 h2 h3 with h | ⟨k1, k2, h⟩
  · exact Or.inl h
  · have hb : ∀ s, set.testBit s = true → s < nS := fun s hb => by
      rcases Nat.lt_or_ge s nS with h9 | h9
      · exact h9
      · have := Nat.testBit_lt_two_pow (Nat.lt_of_lt_of_le k2 (Nat.pow_le_pow_right (by decide) h9))
        rw [hb] at this
        cases this
    have e := hc ch k1
    refine Or.inr ⟨by omega, Nat.lt_of_lt_of_le k2 (Nat.pow_le_pow_right (by decide) hS), ?_⟩
    rcases h with ⟨h, hp⟩ | ⟨h, hp⟩
    · exact Or.inl ⟨h, pFits_congr e.1 e.2 (fun s _ hb9 => hs s (hb s hb9)) hp⟩
    · exact Or.inr ⟨h, fun hp9 => hp (pFits_congr e.1.symm e.2.symm (fun s _ hb9 => ⟨(hs s (hb s hb9)).1.symm, (hs s (hb s hb9)).2.1.symm, (hs s (hb s hb9)).2.2.symm⟩) hp9)⟩
def codeA (k : Nat) : Int32 := match k with
  | 0 => 0
  | 1 => 1
  | 2 => 2
  | _ => -1
theorem canMeasure_eq (a b : Int32) (st : St) : f_LR_canMeasure a b st = some (if (1 ≤ a ∧ a ≤ 8) ∧ (1 ≤ b ∧ b ≤ 3) then 1 else 0, st) := by
  unfold f_LR_canMeasure
  rw [within_eq]
  by_cases h1 : (1 ≤ a ∧ a ≤ 8)
  · simp only [if_pos h1, Option.bind_some, if_neg one_ne, within_eq]
    by_cases h2 : (1 ≤ b ∧ b ≤ 3)
    · simp [h1, h2]
    · simp [h1, h2]
  · simp [h1]
theorem rule_sim {c v : St} (h : Rel c v) (x1 x2 : Int32) : Sim0 (f_LR_rule x1 x2 c) (f_Mo_rule x1 x2 v) := by
  obtain ⟨nC, nS, nP, g, o, d, pl, hA, hp, ⟨c0, c1, c2, c3, c8, c7, cR⟩, ⟨v1, v2, v3, v4, v5, v6, vR⟩, hK, hPl⟩ := id h
  unfold f_LR_rule f_Mo_rule xlet
  simp only [within_eq, in_eq, Option.bind_some]
  by_cases h1 : (0 ≤ x1 ∧ x1 ≤ 3)
  · by_cases h2 : (0 ≤ x2 ∧ x2 ≤ 3)
    · obtain ⟨a, -, ha, rfl⟩ := in_nat (lo := 0) (hi := 3) (by decide) (by decide) h1
      obtain ⟨b, -, hb, rfl⟩ := in_nat (lo := 0) (hi := 3) (by decide) (by decide) h2
      simp only [if_pos h1, if_pos h2, if_neg one_ne, f_Be_setGap, f_Pl_setOver, f_Pl_forget, xlet, Option.bind_some]
      refine ⟨1, _, _, rfl, rfl, nC, nS, nP, a, b, d, 0, ⟨hA.1, hA.2.1, hA.2.2.1, ha, hb, hA.2.2.2.2.2⟩, by omega, ⟨?_, ?_, ?_, ?_, ?_, ?_, cR⟩, ⟨?_, ?_, ?_, ?_, ?_, ?_, vR⟩, ?_, fun h9 => by cases h9⟩
      all_goals first | exact hK | (simp [sI_at]; done) | (simp [sI_at]; assumption) | rfl
    · simp only [if_pos h1, if_neg h2, if_neg one_ne, if_true]
      exact ⟨0, _, _, rfl, rfl, nC, nS, nP, g, o, d, pl, hA, hp, ⟨c0, c1, c2, c3, c8, c7, cR⟩, ⟨v1, v2, v3, v4, v5, v6, vR⟩, hK, hPl⟩
  · simp only [if_neg h1, if_true]
    exact ⟨0, _, _, rfl, rfl, nC, nS, nP, g, o, d, pl, hA, hp, ⟨c0, c1, c2, c3, c8, c7, cR⟩, ⟨v1, v2, v3, v4, v5, v6, vR⟩, hK, hPl⟩
theorem rate_sim {c v : St} (h : Rel c v) (x1 x2 : Int32) : ∃ (k : Nat) (r : Int32) (r' : Int32) (v' : St), f_LR_rate x1 x2 c = some ((k, r), c) ∧ f_Mo_rate x1 x2 v = some (r', v') ∧ ((k = 0 ∧ v'.1 0 = 0 ∧ r = r') ∨ (k = 1 ∧ v'.1 0 = 1) ∨ (k = 4 ∧ v'.1 0 = 2)) ∧ Rel c v' := by
  have hR : ∀ y : Int32, Rel c (sI v 0 y) := fun y => by
    obtain ⟨nC, nS, nP, g, o, d, pl, hA, hp, hC, ⟨v1, v2, v3, v4, v5, v6, vR⟩, hK, hPl⟩ := id h
    exact ⟨nC, nS, nP, g, o, d, pl, hA, hp, hC, ⟨v1, v2, v3, v4, v5, v6, vR⟩, hK, hPl⟩
  unfold f_LR_rate f_Mo_rate
  simp only [within_eq, in_eq, Option.bind_some]
  by_cases h1 : (0 ≤ x1 ∧ x1 ≤ 1000)
  · by_cases h2 : (0 ≤ x2 ∧ x2 ≤ 1000)
    · simp only [if_pos h1, if_pos h2, if_neg one_ne]
      by_cases h3 : x2 = 0
      · simp only [if_pos h3, f_Mo_rate_36, xlet]
        exact ⟨4, 0, 0, sI v 0 2, rfl, rfl, Or.inr (Or.inr ⟨rfl, rfl⟩), hR 2⟩
      · simp only [if_neg h3, if_pos (show ¬ x2 = 0 from h3), f_Mo_rate_36, xlet]
        exact ⟨0, (60 * x1) / x2, (60 * x1) / x2, sI v 0 0, rfl, rfl, Or.inl ⟨rfl, rfl, rfl⟩, hR 0⟩
    · simp only [if_pos h1, if_neg h2, if_neg one_ne, if_true, f_Mo_rate_23, f_Mo_rate_36, xlet]
      exact ⟨1, 0, 0, sI v 0 1, rfl, rfl, Or.inr (Or.inl ⟨rfl, rfl⟩), hR 1⟩
  · simp only [if_neg h1, if_true, f_Mo_rate_23, f_Mo_rate_36, xlet]
    exact ⟨1, 0, 0, sI v 0 1, rfl, rfl, Or.inr (Or.inl ⟨rfl, rfl⟩), hR 1⟩
