theorem nI_nm1 {n : Nat} (h : n < 2 ^ 31) : ¬ nI n = -1 := fun h9 => by
  have := congrArg Int32.toInt h9
  rw [nI_toInt h] at this
  have e9 : (-1 : Int32).toInt = -1 := by decide
  omega
theorem fl_add_eq {c : St} {nS l w a q s : Nat} (c2 : c.1 2 = nI nS) (h : nS < 4) : f_Fl_add (nI l) (nI w) (nI a) (nI q) (nI s) c = some (nI nS, sI (sA (sA (sA (sA (sA c 6 nS (nI l)) 7 nS (nI w)) 8 nS (nI a)) 9 nS (nI q)) 10 nS (nI s)) 2 (nI (nS + 1))) := by
  have e1 : ¬ nI nS < 0 := nI_pos (by omega)
  have e2 : nI nS < 4 := nI_lt (b := 4) h (by decide)
  have e3 : xin (nI nS) 4 := vp_in_nI h (by decide)
  have e4 : (nI nS).toNatClampNeg = nS := nI_clamp (by omega)
  simp only [f_Fl_add, xlet, c2, if_neg e1, if_pos e2, if_pos e3, e4, nI_1]
theorem fl_add_full {c : St} {x1 x2 x3 x4 x5 : Int32} (c2 : c.1 2 = nI 4) : f_Fl_add x1 x2 x3 x4 x5 c = some (-1, c) := by
  have e1 : ¬ nI 4 < 0 := by decide
  have e2 : ¬ nI 4 < 4 := by decide
  simp only [f_Fl_add, xlet, c2, if_neg e1, if_neg e2]
theorem mo_ship_eq {v : St} {nS l w a q s : Nat} (v2 : v.1 2 = nI nS) (h : nS < 4) : f_Mo_ship_68 (nI l) (nI w) (nI a) (nI q) (nI s) 0 v = some (nI nS, sI (sI (sA (sA (sA (sA (sA (sI v 0 0) 6 nS (nI l)) 7 nS (nI w)) 8 nS (nI a)) 9 nS (nI q)) 10 nS (nI s)) 2 (nI (nS + 1))) 6 0) := by
  have e3 : xin (nI nS) 4 := vp_in_nI h (by decide)
  have e4 : (nI nS).toNatClampNeg = nS := nI_clamp (by omega)
  change (if (0 : Int32) ≤ 0 then (if xin (v.1 2) 4 then (if xin (v.1 2) 4 then (if xin (v.1 2) 4 then (if xin (v.1 2) 4 then (if xin (v.1 2) 4 then some ((v.1 2 + 1) - 1, sI (sI (sA (sA (sA (sA (sA (sI v 0 0) 6 (v.1 2).toNatClampNeg (nI l)) 7 (v.1 2).toNatClampNeg (nI w)) 8 (v.1 2).toNatClampNeg (nI a)) 9 (v.1 2).toNatClampNeg (nI q)) 10 (v.1 2).toNatClampNeg (nI s)) 2 (v.1 2 + 1)) 6 0) else none) else none) else none) else none) else none) else some ((0 : Int32), sI v 0 0)) = _
  rw [v2, if_pos (by decide), if_pos e3, if_pos e3, if_pos e3, if_pos e3, if_pos e3, e4, nI_1, nI_pred]
theorem ship_sim {c v : St} (h : Rel c v) (x1 x2 x3 x4 x5 : Int32) : ∃ (k : Nat) (r : Int32) (c' : St) (r' : Int32) (v' : St), f_LR_ship x1 x2 x3 x4 x5 c = some ((k, r), c') ∧ f_Mo_ship x1 x2 x3 x4 x5 v = some (r', v') ∧ ((k = 0 ∧ v'.1 0 = 0 ∧ r = r') ∨ (k = 1 ∧ v'.1 0 = 1) ∨ (k = 2 ∧ v'.1 0 = 2)) ∧ Rel c' v' := by
  obtain ⟨nC, nS, nP, g, o, d, pl, hA, hp, ⟨c0, c1, c2, c3, c8, c7, cR⟩, ⟨v1, v2, v3, v4, v5, v6, vR⟩, hK, hPl⟩ := id h
  have hR : ∀ y : Int32, Rel c (sI v 0 y) := fun y => ⟨nC, nS, nP, g, o, d, pl, hA, hp, ⟨c0, c1, c2, c3, c8, c7, cR⟩, ⟨v1, v2, v3, v4, v5, v6, vR⟩, hK, hPl⟩
  have t1 : ∀ y1 y2 y3 y4 y5, f_Mo_ship_51 y1 y2 y3 y4 y5 v = some (0, sI v 0 1) := fun y1 y2 y3 y4 y5 => by
    unfold f_Mo_ship_51
    unfold f_Mo_ship_68 xlet
    exact if_neg (show ¬ ((1 : Int32) ≤ 0) by decide)
  have out1 : ∃ (k : Nat) (r : Int32) (c' : St) (r' : Int32) (v' : St), (some ((1, 0), c) : Option ((Nat × Int32) × St)) = some ((k, r), c') ∧ (some (0, sI v 0 1) : Option (Int32 × St)) = some (r', v') ∧ ((k = 0 ∧ v'.1 0 = 0 ∧ r = r') ∨ (k = 1 ∧ v'.1 0 = 1) ∨ (k = 2 ∧ v'.1 0 = 2)) ∧ Rel c' v' := ⟨1, 0, c, 0, sI v 0 1, rfl, rfl, Or.inr (Or.inl ⟨rfl, rfl⟩), hR 1⟩
  unfold f_LR_ship f_Mo_ship
  simp only [canMeasure_eq, within_eq, in_eq, Option.bind_some]
  by_cases h1 : (1 ≤ x1 ∧ x1 ≤ 8)
  · by_cases h2 : (1 ≤ x2 ∧ x2 ≤ 3)
    · simp only [if_pos h1, if_pos h2, if_pos (And.intro h1 h2), if_neg one_ne]
      by_cases h3 : (0 ≤ x3 ∧ x3 ≤ 1000)
      · simp only [if_pos h3, if_neg one_ne]
        by_cases h4 : (0 ≤ x4 ∧ x4 ≤ 1)
        · simp only [if_pos h4, if_neg one_ne]
          by_cases h5 : (0 ≤ x5 ∧ x5 ≤ 2)
          · simp only [if_pos h5, if_neg one_ne]
            obtain ⟨l, hl1, hl2, rfl⟩ := in_nat (lo := 1) (hi := 8) (by decide) (by decide) h1
            obtain ⟨w, hw1, hw2, rfl⟩ := in_nat (lo := 1) (hi := 3) (by decide) (by decide) h2
            obtain ⟨a, ha1, ha2, rfl⟩ := in_nat (lo := 0) (hi := 1000) (by decide) (by decide) h3
            obtain ⟨q, hq1, hq2, rfl⟩ := in_nat (lo := 0) (hi := 1) (by decide) (by decide) h4
            obtain ⟨s, hs1, hs2, rfl⟩ := in_nat (lo := 0) (hi := 2) (by decide) (by decide) h5
            rcases Nat.lt_or_ge nS 4 with hn | hn
            · have e5 : ¬ v.1 2 = 4 := by rw [v2]; exact fun h9 => by have := (nI_eq (a := nS) (b := 4) (by omega) (by decide)).mp h9; omega
              simp only [fl_add_eq c2 hn, Option.bind_some, if_neg (nI_nm1 (n := nS) (by omega)), f_Pl_forget, xlet, if_neg e5, mo_ship_eq v2 hn]
              refine ⟨0, _, _, _, _, rfl, rfl, Or.inl ⟨rfl, rfl, rfl⟩, nC, nS + 1, nP, g, o, updD (updD (updD (updD (updD d 6 nS l) 7 nS w) 8 nS a) 9 nS q) 10 nS s, 0, ?_, by omega, ⟨?_, ?_, ?_, ?_, ?_, ?_, ?_⟩, ⟨?_, ?_, ?_, ?_, ?_, ?_, ?_⟩, ?_, fun h9 => by cases h9⟩
              · refine ⟨hA.1, by omega, hA.2.2.1, hA.2.2.2.1, hA.2.2.2.2.1, fun i hi => ?_, fun i hi => ?_, fun i hi => ?_⟩
                · have := hA.2.2.2.2.2.1 i hi
                  simp [updD]
                  omega
                · have := hA.2.2.2.2.2.2.1 i hi
                  simp [updD]
                  omega
                · rcases Nat.lt_or_ge i nS with h9 | h9
                  · have := hA.2.2.2.2.2.2.2 i h9
                    simp [updD, Nat.ne_of_lt h9]
                    omega
                  · have : i = nS := by omega
                    subst this
                    simp [updD]
                    omega
              all_goals first
                | exact ((RAr.sA (RAr.sA (RAr.sA (RAr.sA (RAr.sA cR 6 nS l) 7 nS w) 8 nS a) 9 nS q) 10 nS s).sI _ _).sI _ _
                | exact ((RAr.sA (RAr.sA (RAr.sA (RAr.sA (RAr.sA (RAr.sI vR 0 0) 6 nS l) 7 nS w) 8 nS a) 9 nS q) 10 nS s).sI _ _).sI _ _
                | (refine Cache_congr hK ?_ (Nat.le_refl _) (by omega) (fun ch hch => ?_) (fun s hs => ?_)
                   · funext j; simp [sI_arr, sA_at]
                   · simp [updD]
                   · simp [updD, Nat.ne_of_lt hs])
                | (simp [sI_at, sA_int]; done)
                | (simp [sI_at, sA_int]; assumption)
                | rfl
            · have hn : nS = 4 := by have := hA.2.1; omega
              subst hn
              have e8 : v.1 2 = 4 := v2
              have e7 : ∀ y1 y2 y3 y4 y5, f_Mo_ship_68 y1 y2 y3 y4 y5 2 v = some (0, sI v 0 2) := fun y1 y2 y3 y4 y5 => by
                unfold f_Mo_ship_68 xlet
                exact if_neg (show ¬ ((2 : Int32) ≤ 0) by decide)
              simp only [fl_add_full c2, Option.bind_some, if_true, if_pos e8, e7]
              exact ⟨2, 0, c, 0, sI v 0 2, rfl, rfl, Or.inr (Or.inr ⟨rfl, rfl⟩), hR 2⟩
          · simp only [if_neg h5, if_true, t1]; exact out1
        · simp only [if_neg h4, if_true, t1]; exact out1
      · simp only [if_neg h3, if_true, t1]; exact out1
    · simp only [if_pos h1, if_neg h2, if_neg (fun h9 : (1 ≤ x1 ∧ x1 ≤ 8) ∧ (1 ≤ x2 ∧ x2 ≤ 3) => h2 h9.2), if_neg one_ne, if_true, t1]; exact out1
  · simp only [if_neg h1, if_neg (fun h9 : (1 ≤ x1 ∧ x1 ≤ 8) ∧ (1 ≤ x2 ∧ x2 ≤ 3) => h1 h9.1), if_true, t1]; exact out1
