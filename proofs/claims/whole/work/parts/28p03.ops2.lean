theorem add_eq {c : St} {nC l w f : Nat} (c0 : c.1 0 = nI nC) (h : nC < 2) : f_Ch_add (nI l) (nI w) (nI f) c = some (nI nC, sI (sA (sA (sA c 0 nC (nI l)) 1 nC (nI w)) 2 nC (nI f)) 0 (nI (nC + 1))) := by
  have e1 : ¬ nI nC < 0 := nI_pos (by omega)
  have e2 : nI nC < 2 := nI_lt (b := 2) h (by decide)
  have e3 : xin (nI nC) 2 := vp_in_nI h (by decide)
  have e4 : (nI nC).toNatClampNeg = nC := nI_clamp (by omega)
  simp only [f_Ch_add, xlet, c0, if_neg e1, if_pos e2, if_pos e3, e4, nI_1]
theorem add_full {c : St} {x1 x2 x3 : Int32} (c0 : c.1 0 = nI 2) : f_Ch_add x1 x2 x3 c = some (-1, c) := by
  have e1 : ¬ nI 2 < 0 := by decide
  have e2 : ¬ nI 2 < 2 := by decide
  simp only [f_Ch_add, xlet, c0, if_neg e1, if_neg e2]
theorem mo_add_eq {v : St} {nC l w f : Nat} (v1 : v.1 1 = nI nC) (h : nC < 2) : f_Mo_chamber_47 (nI l) (nI w) (nI f) 0 v = some (nI nC, sI (sI (sA (sA (sA (sI v 0 0) 0 nC (nI l)) 1 nC (nI w)) 2 nC (nI f)) 1 (nI (nC + 1))) 6 0) := by
  have e3 : xin (nI nC) 2 := vp_in_nI h (by decide)
  have e4 : (nI nC).toNatClampNeg = nC := nI_clamp (by omega)
  change (if (0 : Int32) ≤ 0 then (if xin (v.1 1) 2 then (if xin (v.1 1) 2 then (if xin (v.1 1) 2 then some ((v.1 1 + 1) - 1, sI (sI (sA (sA (sA (sI v 0 0) 0 (v.1 1).toNatClampNeg (nI l)) 1 (v.1 1).toNatClampNeg (nI w)) 2 (v.1 1).toNatClampNeg (nI f)) 1 (v.1 1 + 1)) 6 0) else none) else none) else none) else some ((0 : Int32), sI v 0 0)) = _
  rw [v1, if_pos (by decide), if_pos e3, if_pos e3, if_pos e3, e4, nI_1, nI_pred]
theorem chamber_sim {c v : St} (h : Rel c v) (x1 x2 x3 : Int32) : ∃ (k : Nat) (r : Int32) (c' : St) (r' : Int32) (v' : St), f_LR_chamber x1 x2 x3 c = some ((k, r), c') ∧ f_Mo_chamber x1 x2 x3 v = some (r', v') ∧ ((k = 0 ∧ v'.1 0 = 0 ∧ r = r') ∨ (k = 1 ∧ v'.1 0 = 1) ∨ (k = 2 ∧ v'.1 0 = 2)) ∧ Rel c' v' := by
  obtain ⟨nC, nS, nP, g, o, d, pl, hA, hp, ⟨c0, c1, c2, c3, c8, c7, cR⟩, ⟨v1, v2, v3, v4, v5, v6, vR⟩, hK, hPl⟩ := id h
  have hR : ∀ y : Int32, Rel c (sI v 0 y) := fun y => ⟨nC, nS, nP, g, o, d, pl, hA, hp, ⟨c0, c1, c2, c3, c8, c7, cR⟩, ⟨v1, v2, v3, v4, v5, v6, vR⟩, hK, hPl⟩
  unfold f_LR_chamber f_Mo_chamber
  simp only [canMeasure_eq, within_eq, in_eq, Option.bind_some]
  have t1 : f_Mo_chamber_30 x1 x2 x3 v = some (0, sI v 0 1) := by
    have e9 : ¬ ((1 : Int32) ≤ 0) := by decide
    simp only [f_Mo_chamber_30, f_Mo_chamber_47, xlet, sI_at, if_true, if_neg e9]
  by_cases h1 : (1 ≤ x1 ∧ x1 ≤ 8)
  · by_cases h2 : (1 ≤ x2 ∧ x2 ≤ 3)
    · by_cases h3 : (1 ≤ x3 ∧ x3 ≤ 60)
      · obtain ⟨l, hl1, hl2, rfl⟩ := in_nat (lo := 1) (hi := 8) (by decide) (by decide) h1
        obtain ⟨w, hw1, hw2, rfl⟩ := in_nat (lo := 1) (hi := 3) (by decide) (by decide) h2
        obtain ⟨f, hf1, hf2, rfl⟩ := in_nat (lo := 1) (hi := 60) (by decide) (by decide) h3
        simp only [if_pos h1, if_pos h2, if_pos h3, if_pos (And.intro h1 h2), if_neg one_ne]
        rcases Nat.lt_or_ge nC 2 with hn | hn
        · have e5 : ¬ v.1 1 = 2 := by rw [v1]; exact fun h9 => by have := (nI_eq (a := nC) (b := 2) (by omega) (by decide)).mp h9; omega
          have e6 : ¬ nI nC = -1 := fun h9 => by
            have := congrArg Int32.toInt h9
            rw [nI_toInt (by omega)] at this
            have e9 : (-1 : Int32).toInt = -1 := by decide
            omega
          simp only [add_eq c0 hn, Option.bind_some, if_neg e6, f_Pl_forget, xlet, if_neg e5, mo_add_eq v1 hn]
          refine ⟨0, _, _, _, _, rfl, rfl, Or.inl ⟨rfl, rfl, rfl⟩, nC + 1, nS, nP, g, o, updD (updD (updD d 0 nC l) 1 nC w) 2 nC f, 0, ?_, by omega, ⟨?_, ?_, ?_, ?_, ?_, ?_, ?_⟩, ⟨?_, ?_, ?_, ?_, ?_, ?_, ?_⟩, ?_, fun h9 => by cases h9⟩
          · refine ⟨by omega, hA.2.1, hA.2.2.1, hA.2.2.2.1, hA.2.2.2.2.1, fun i hi => ?_, fun i hi => ?_, fun i hi => ?_⟩
            · rcases Nat.lt_or_ge i nC with h9 | h9
              · have := hA.2.2.2.2.2.1 i h9
                simp [updD, Nat.ne_of_lt h9]
                omega
              · have : i = nC := by omega
                subst this
                simp [updD]
                omega
            · have := hA.2.2.2.2.2.2.1 i hi
              simp [updD]
              omega
            · have := hA.2.2.2.2.2.2.2 i hi
              simp [updD]
              omega
          all_goals first
            | exact ((RAr.sA (RAr.sA (RAr.sA cR 0 nC l) 1 nC w) 2 nC f).sI _ _).sI _ _
            | exact (((RAr.sA (RAr.sA (RAr.sA (RAr.sI vR 0 0) 0 nC l) 1 nC w) 2 nC f).sI _ _).sI _ _)
            | (refine Cache_congr hK ?_ (by omega) (Nat.le_refl _) (fun ch hch => ?_) (fun s hs => ?_)
               · funext j; simp [sI_arr, sA_at]
               · simp [updD, Nat.ne_of_lt hch]
               · simp [updD])
            | (simp [sI_at, sA_int]; done)
            | (simp [sI_at, sA_int]; assumption)
            | rfl
        · have hn : nC = 2 := by have := hA.1; omega
          subst hn
          have e9 : ¬ ((2 : Int32) ≤ 0) := by decide
          have e8 : v.1 1 = 2 := v1
          simp only [add_full c0, Option.bind_some, if_true, if_pos e8, f_Mo_chamber_47, xlet, sI_at, if_neg e9]
          exact ⟨2, 0, c, 0, sI v 0 2, rfl, rfl, Or.inr (Or.inr ⟨rfl, rfl⟩), hR 2⟩
      · simp only [if_pos h1, if_pos h2, if_neg h3, if_pos (And.intro h1 h2), if_neg one_ne, if_true, t1]
        exact ⟨1, 0, c, 0, sI v 0 1, rfl, rfl, Or.inr (Or.inl ⟨rfl, rfl⟩), hR 1⟩
    · simp only [if_pos h1, if_neg h2, if_neg (fun h9 : (1 ≤ x1 ∧ x1 ≤ 8) ∧ (1 ≤ x2 ∧ x2 ≤ 3) => h2 h9.2), if_neg one_ne, if_true, t1]
      exact ⟨1, 0, c, 0, sI v 0 1, rfl, rfl, Or.inr (Or.inl ⟨rfl, rfl⟩), hR 1⟩
  · simp only [if_neg h1, if_neg (fun h9 : (1 ≤ x1 ∧ x1 ≤ 8) ∧ (1 ≤ x2 ∧ x2 ≤ 3) => h1 h9.1), if_true, t1]
    exact ⟨1, 0, c, 0, sI v 0 1, rfl, rfl, Or.inr (Or.inl ⟨rfl, rfl⟩), hR 1⟩
