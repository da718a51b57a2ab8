theorem ch_has_eq {c : St} {nC : Nat} (c0 : c.1 0 = nI nC) (h : nC ≤ 2) (x : Int32) : f_Ch_has x c = some (if 0 ≤ x ∧ x < nI nC then 1 else 0, c) := by
  unfold f_Ch_has
  rw [c0]
  by_cases h1 : x < 0
  · rw [if_pos h1, if_neg (fun h9 => Int32.not_le.mpr h1 h9.1)]
  · rw [if_neg h1]
    by_cases h2 : nI nC ≤ x
    · rw [if_pos h2, if_neg (fun h9 => Int32.not_lt.mpr h2 h9.2)]
    · rw [if_neg h2, if_neg, if_pos ⟨Int32.not_lt.mp h1, Int32.not_le.mp h2⟩]
      intro h3
      exact h2 (Int32.le_trans (nI_le (b := 2) h (by decide)) h3)
theorem fl_has_eq {c : St} {nS : Nat} (c2 : c.1 2 = nI nS) (h : nS ≤ 4) (x : Int32) : f_Fl_has x c = some (if 0 ≤ x ∧ x < nI nS then 1 else 0, c) := by
  unfold f_Fl_has
  rw [c2]
  by_cases h1 : x < 0
  · rw [if_pos h1, if_neg (fun h9 => Int32.not_le.mpr h1 h9.1)]
  · rw [if_neg h1]
    by_cases h2 : nI nS ≤ x
    · rw [if_pos h2, if_neg (fun h9 => Int32.not_lt.mpr h2 h9.2)]
    · rw [if_neg h2, if_neg, if_pos ⟨Int32.not_lt.mp h1, Int32.not_le.mp h2⟩]
      intro h3
      exact h2 (Int32.le_trans (nI_le (b := 4) h (by decide)) h3)
theorem mo_isChamber_eq {v : St} {nC : Nat} (v1 : v.1 1 = nI nC) (x : Int32) : f_Mo_isChamber x v = some (if 0 ≤ x ∧ x < nI nC then 1 else 0, v) := by
  unfold f_Mo_isChamber
  rw [v1]
  by_cases h1 : x < 0
  · rw [if_pos h1, if_neg (fun h9 => Int32.not_le.mpr h1 h9.1)]
  · rw [if_neg h1]
    by_cases h2 : nI nC ≤ x
    · rw [if_pos h2, if_neg (fun h9 => Int32.not_lt.mpr h2 h9.2)]
    · rw [if_neg h2, if_pos ⟨Int32.not_lt.mp h1, Int32.not_le.mp h2⟩]
theorem mo_isShip_eq {v : St} {nS : Nat} (v2 : v.1 2 = nI nS) (x : Int32) : f_Mo_isShip x v = some (if 0 ≤ x ∧ x < nI nS then 1 else 0, v) := by
  unfold f_Mo_isShip
  rw [v2]
  by_cases h1 : x < 0
  · rw [if_pos h1, if_neg (fun h9 => Int32.not_le.mpr h1 h9.1)]
  · rw [if_neg h1]
    by_cases h2 : nI nS ≤ x
    · rw [if_pos h2, if_neg (fun h9 => Int32.not_lt.mpr h2 h9.2)]
    · rw [if_neg h2, if_pos ⟨Int32.not_lt.mp h1, Int32.not_le.mp h2⟩]
/-- an index below a small number -/
theorem ix_nat {x : Int32} {n : Nat} (hn : n < 2 ^ 31) (h : 0 ≤ x ∧ x < nI n) : ∃ j : Nat, j < n ∧ x = nI j := by
  have h0 : ¬ x < 0 := Int32.not_lt.mpr h.1
  obtain ⟨j, hj, rfl⟩ := nI_of h0
  exact ⟨j, (nI_ltI hj hn).mp h.2, rfl⟩
theorem addSpan_eq {c : St} {nP : Nat} (c1 : c.1 1 = nI nP) (h : nP < 8) (x1 x2 x3 : Int32) : f_Ch_addSpan x1 x2 x3 c = some (1, sI (sA (sA (sA c 3 nP x1) 4 nP x2) 5 nP x3) 1 (nI (nP + 1))) := by
  have e1 : ¬ nI nP < 0 := nI_pos (by omega)
  have e2 : nI nP < 8 := nI_lt (b := 8) h (by decide)
  have e3 : xin (nI nP) 8 := vp_in_nI h (by decide)
  have e4 : (nI nP).toNatClampNeg = nP := nI_clamp (by omega)
  simp only [f_Ch_addSpan, xlet, c1, if_neg e1, if_pos e2, if_pos e3, e4, nI_1]
theorem addSpan_full {c : St} {x1 x2 x3 : Int32} (c1 : c.1 1 = nI 8) : f_Ch_addSpan x1 x2 x3 c = some (0, c) := by
  have e1 : ¬ nI 8 < 0 := by decide
  have e2 : ¬ nI 8 < 8 := by decide
  simp only [f_Ch_addSpan, xlet, c1, if_neg e1, if_neg e2]
theorem closed_sim {c v : St} (h : Rel c v) (x1 x2 x3 : Int32) : Sim0 (f_LR_closed x1 x2 x3 c) (f_Mo_closed x1 x2 x3 v) := by
  obtain ⟨nC, nS, nP, g, o, d, pl, hA, hp, ⟨c0, c1, c2, c3, c8, c7, cR⟩, ⟨v1, v2, v3, v4, v5, v6, vR⟩, hK, hPl⟩ := id h
  have hR : Rel c (sI v 0 0) := ⟨nC, nS, nP, g, o, d, pl, hA, hp, ⟨c0, c1, c2, c3, c8, c7, cR⟩, ⟨v1, v2, v3, v4, v5, v6, vR⟩, hK, hPl⟩
  have no : Sim0 (some (0, c)) (some (0, sI v 0 0)) := ⟨0, c, sI v 0 0, rfl, rfl, hR⟩
  have w1 : (sI v 0 0).1 1 = nI nC := v1
  have w3 : (sI v 0 0).1 3 = nI nP := v3
  unfold f_LR_closed f_Mo_closed
  simp only [ch_has_eq c0 hA.1, Option.bind_some]
  unfold xlet
  simp only [mo_isChamber_eq w1, Option.bind_some]
  by_cases h1 : 0 ≤ x1 ∧ x1 < nI nC
  · simp only [if_pos h1, if_neg one_ne, in_eq, Option.bind_some]
    by_cases h2 : x2 < 0
    · have e2 : ¬ (0 ≤ x2 ∧ x2 ≤ 10000) := fun h9 => Int32.not_le.mpr h2 h9.1
      simp only [if_pos h2, if_neg e2, if_true]
      exact no
    · simp only [if_neg h2]
      by_cases h3 : x3 ≤ x2
      · simp only [if_pos h3]
        by_cases e2 : (0 ≤ x2 ∧ x2 ≤ 10000)
        · simp only [if_pos e2, if_neg one_ne]
          by_cases e3 : (0 ≤ x3 ∧ x3 ≤ 10000)
          · simp only [if_pos e3, if_neg one_ne]; exact no
          · simp only [if_neg e3, if_true]; exact no
        · simp only [if_neg e2, if_true]; exact no
      · simp only [if_neg h3]
        by_cases h4 : x3 ≤ 10000
        · have l1 : 0 ≤ x2 := Int32.not_lt.mp h2
          have l2 : x2 < x3 := Int32.not_le.mp h3
          have e2 : (0 ≤ x2 ∧ x2 ≤ 10000) := ⟨l1, Int32.le_trans (Int32.le_of_lt l2) h4⟩
          have e3 : (0 ≤ x3 ∧ x3 ≤ 10000) := ⟨Int32.le_trans l1 (Int32.le_of_lt l2), h4⟩
          simp only [if_pos h4, if_pos e2, if_pos e3, if_neg one_ne]
          rcases Nat.lt_or_ge nP 8 with hn | hn
          · obtain ⟨a, ha, rfl⟩ := ix_nat (by have := hA.1; omega) h1
            obtain ⟨b, -, hb, rfl⟩ := in_nat (lo := 0) (hi := 10000) (by decide) (by decide) e2
            obtain ⟨f, -, hf, rfl⟩ := in_nat (lo := 0) (hi := 10000) (by decide) (by decide) e3
            have hbf : b < f := (nI_ltI (by omega) (by omega)).mp l2
            have e5 : ¬ v.1 3 = 8 := by rw [v3]; exact fun h9 => by have := (nI_eq (a := nP) (b := 8) (by omega) (by decide)).mp h9; omega
            have e3 : xin (nI nP) 8 := vp_in_nI hn (by decide)
            have e4 : (nI nP).toNatClampNeg = nP := nI_clamp (by omega)
            have q : (if (sI v 0 0).1 3 = 8 then some ((0 : Int32), sI v 0 0) else (if xin ((sI v 0 0).1 3) 8 then (if xin ((sI v 0 0).1 3) 8 then (if xin ((sI v 0 0).1 3) 8 then some ((1 : Int32), sI (sI (sA (sA (sA (sI v 0 0) 3 ((sI v 0 0).1 3).toNatClampNeg (nI a)) 4 ((sI v 0 0).1 3).toNatClampNeg (nI b)) 5 ((sI v 0 0).1 3).toNatClampNeg (nI f)) 3 ((sI v 0 0).1 3 + 1)) 6 0) else none) else none) else none)) = some (1, sI (sI (sA (sA (sA (sI v 0 0) 3 nP (nI a)) 4 nP (nI b)) 5 nP (nI f)) 3 (nI (nP + 1))) 6 0) := by
              rw [w3, if_neg (by rw [← v3]; exact e5), if_pos e3, if_pos e3, if_pos e3, e4, nI_1]
            simp only [addSpan_eq c1 hn, Option.bind_some, if_neg one_ne, f_Pl_forget, xlet]
            refine ⟨1, _, _, rfl, q, nC, nS, nP + 1, g, o, updD (updD (updD d 3 nP a) 4 nP b) 5 nP f, 0, ?_, by omega, ⟨?_, ?_, ?_, ?_, ?_, ?_, ?_⟩, ⟨?_, ?_, ?_, ?_, ?_, ?_, ?_⟩, ?_, fun h9 => by cases h9⟩
            · refine ⟨hA.1, hA.2.1, by omega, hA.2.2.2.1, hA.2.2.2.2.1, fun i hi => ?_, fun i hi => ?_, fun i hi => ?_⟩
              · have := hA.2.2.2.2.2.1 i hi
                simp [updD]
                omega
              · rcases Nat.lt_or_ge i nP with h9 | h9
                · have := hA.2.2.2.2.2.2.1 i h9
                  simp [updD, Nat.ne_of_lt h9]
                  omega
                · have : i = nP := by omega
                  subst this
                  simp [updD]
                  omega
              · have := hA.2.2.2.2.2.2.2 i hi
                simp [updD]
                omega
            all_goals first
              | exact ((RAr.sA (RAr.sA (RAr.sA cR 3 nP a) 4 nP b) 5 nP f).sI _ _).sI _ _
              | exact ((RAr.sA (RAr.sA (RAr.sA (RAr.sI vR 0 0) 3 nP a) 4 nP b) 5 nP f).sI _ _).sI _ _
              | (refine Cache_congr hK ?_ (Nat.le_refl _) (Nat.le_refl _) (fun ch hch => ?_) (fun s hs => ?_)
                 · funext j; simp [sI_arr, sA_at]
                 · simp [updD]
                 · simp [updD])
              | (simp [sI_at, sA_int]; done)
              | (simp [sI_at, sA_int]; assumption)
              | rfl
          · have hn : nP = 8 := by have := hA.2.2.1; omega
            subst hn
            have e8 : (sI v 0 0).1 3 = 8 := w3
            simp only [addSpan_full c1, Option.bind_some, if_true, if_pos e8]
            exact no
        · simp only [if_neg h4]
          have e3 : ¬ (0 ≤ x3 ∧ x3 ≤ 10000) := fun h9 => h4 h9.2
          by_cases e2 : (0 ≤ x2 ∧ x2 ≤ 10000)
          · simp only [if_pos e2, if_neg e3, if_neg one_ne, if_true]; exact no
          · simp only [if_neg e2, if_true]; exact no
  · simp only [if_neg h1, if_true]
    exact no
