/-! the law's loop, over the operations -/
theorem g_in {i L j : Nat} (h : i + 6 ≤ L) (hL : L ≤ 3072) (hj : j ≤ 5) {z : Int32} (hz : z = nI j) : xin (nI i + z) L := by
  rw [hz, nI_add]
  exact vp_in_nI (by omega) (by omega)
theorem lg_same (x : Int64) : lg_cmp x x = 0 := by
  unfold lg_cmp
  rw [if_neg (fun h => by simp at h), if_pos rfl]
theorem up_0 (ov : Nat → Int64) (x : Int64) : vp_updL ov 0 x (0 : Int32).toNatClampNeg = x := rfl
def LK (K : Int32 → St → (Nat → Int64) → St → Option Int32) (i : Nat) : Prop := ∀ (sc : St) (ov : Nat → Int64) (v : St), Rel sc v → K (nI i + 6) sc ov v = some 1
section LP
variable {L i : Nat} {xs : Nat → Int32} {K : Int32 → St → (Nat → Int64) → St → Option Int32} {sc v : St} {ov : Nat → Int64}
theorem case_c0 (hi : i + 6 ≤ L) (hL : L ≤ 3072) (hK : LK K i) (h : Rel sc v) : f_law_c0 L xs K (nI i) sc ov v = some 1 := by
  have g1 := g_in (j := 1) hi hL (by decide) (z := 1) rfl
  have g2 := g_in (j := 2) hi hL (by decide) (z := 2) rfl
  have g3 := g_in (j := 3) hi hL (by decide) (z := 3) rfl
  obtain ⟨k, r, c', r', v', hc, hm, hcs, hR⟩ := chamber_sim h (xs (nI i + 1).toNatClampNeg) (xs (nI i + 2).toNatClampNeg) (xs (nI i + 3).toNatClampNeg)
  unfold f_law_c0 f_Lw_chamber
  simp only [if_pos g1, if_pos g2, if_pos g3, hc, Option.bind_some]
  rcases hcs with ⟨rfl, e1, rfl⟩ | ⟨rfl, e1⟩ | ⟨rfl, e1⟩
  · simp only [if_true, Option.bind_some, hm, f_Mo_thrown, e1, up_0, lg_same, f_law_827]
    exact hK _ _ _ hR
  · simp [hm, f_Mo_thrown, e1, f_law_827]
    exact hK _ _ _ hR
  · simp [hm, f_Mo_thrown, e1, f_law_827]
    exact hK _ _ _ hR
theorem case_c1 (hi : i + 6 ≤ L) (hL : L ≤ 3072) (hK : LK K i) (h : Rel sc v) : f_law_c1 L xs K (nI i) sc ov v = some 1 := by
  have g1 := g_in (j := 1) hi hL (by decide) (z := 1) rfl
  have g2 := g_in (j := 2) hi hL (by decide) (z := 2) rfl
  have g3 := g_in (j := 3) hi hL (by decide) (z := 3) rfl
  have g4 := g_in (j := 4) hi hL (by decide) (z := 4) rfl
  have g5 := g_in (j := 5) hi hL (by decide) (z := 5) rfl
  obtain ⟨k, r, c', r', v', hc, hm, hcs, hR⟩ := ship_sim h (xs (nI i + 1).toNatClampNeg) (xs (nI i + 2).toNatClampNeg) (xs (nI i + 3).toNatClampNeg) (xs (nI i + 4).toNatClampNeg) (xs (nI i + 5).toNatClampNeg)
  unfold f_law_c1 f_Lw_ship
  simp only [if_pos g1, if_pos g2, if_pos g3, if_pos g4, if_pos g5, hc, Option.bind_some]
  rcases hcs with ⟨rfl, e1, rfl⟩ | ⟨rfl, e1⟩ | ⟨rfl, e1⟩
  · simp only [if_true, Option.bind_some, hm, f_Mo_thrown, e1, up_0, lg_same, f_law_827]
    exact hK _ _ _ hR
  · simp [hm, f_Mo_thrown, e1, f_law_827]
    exact hK _ _ _ hR
  · simp [hm, f_Mo_thrown, e1, f_law_827]
    exact hK _ _ _ hR
theorem case_c2 (hi : i + 6 ≤ L) (hL : L ≤ 3072) (hK : LK K i) (h : Rel sc v) : f_law_c2 L xs K (nI i) sc ov v = some 1 := by
  have g1 := g_in (j := 1) hi hL (by decide) (z := 1) rfl
  have g2 := g_in (j := 2) hi hL (by decide) (z := 2) rfl
  have g3 := g_in (j := 3) hi hL (by decide) (z := 3) rfl
  obtain ⟨r, c', v', hc, hm, hR⟩ := closed_sim h (xs (nI i + 1).toNatClampNeg) (xs (nI i + 2).toNatClampNeg) (xs (nI i + 3).toNatClampNeg)
  unfold f_law_c2
  simp only [if_pos g1, if_pos g2, if_pos g3, hc, hm, Option.bind_some, if_true, f_law_827]
  exact hK _ _ _ hR
theorem case_c3 (hi : i + 6 ≤ L) (hL : L ≤ 3072) (hK : LK K i) (h : Rel sc v) : f_law_c3 L xs K (nI i) sc ov v = some 1 := by
  have g1 := g_in (j := 1) hi hL (by decide) (z := 1) rfl
  have g2 := g_in (j := 2) hi hL (by decide) (z := 2) rfl
  obtain ⟨r, c', v', hc, hm, hR⟩ := rule_sim h (xs (nI i + 1).toNatClampNeg) (xs (nI i + 2).toNatClampNeg)
  unfold f_law_c3
  simp only [if_pos g1, if_pos g2, hc, hm, Option.bind_some, if_true, f_law_827]
  exact hK _ _ _ hR
theorem case_c4 (hK : LK K i) (h : Rel sc v) : f_law_c4 L xs K (nI i) sc ov v = some 1 := by
  obtain ⟨r, c', v', hc, hm, hR⟩ := plan_sim h
  unfold f_law_c4
  simp only [hc, hm, Option.bind_some, if_true, f_law_827]
  exact hK _ _ _ hR
theorem case_c5 (hi : i + 6 ≤ L) (hL : L ≤ 3072) (hK : LK K i) (h : Rel sc v) : f_law_c5 L xs K (nI i) sc ov v = some 1 := by
  have g1 := g_in (j := 1) hi hL (by decide) (z := 1) rfl
  have g2 := g_in (j := 2) hi hL (by decide) (z := 2) rfl
  obtain ⟨k, r, c', r', v', hc, hm, hcs, hR⟩ := fits_sim h (xs (nI i + 1).toNatClampNeg) (xs (nI i + 2).toNatClampNeg)
  unfold f_law_c5 f_Lw_fits
  simp only [if_pos g1, if_pos g2, hc, Option.bind_some]
  rcases hcs with ⟨rfl, e1, rfl, e2⟩ | ⟨rfl, e1⟩
  · rcases e2 with rfl | rfl
    · simp [hm, f_Mo_thrown, e1, f_law_827, vp_updL, lg_same]
      exact hK _ _ _ hR
    · simp [hm, f_Mo_thrown, e1, f_law_827, vp_updL, lg_same]
      exact hK _ _ _ hR
  · simp [hm, f_Mo_thrown, e1, f_law_827]
    exact hK _ _ _ hR
theorem case_c6 (hi : i + 6 ≤ L) (hL : L ≤ 3072) (hK : LK K i) (h : Rel sc v) : f_law_c6 L xs K (nI i) sc ov v = some 1 := by
  have g1 := g_in (j := 1) hi hL (by decide) (z := 1) rfl
  have g2 := g_in (j := 2) hi hL (by decide) (z := 2) rfl
  obtain ⟨k, r, c', r', v', hc, hm, hcs, hR⟩ := of_sim h (xs (nI i + 1).toNatClampNeg) (xs (nI i + 2).toNatClampNeg)
  unfold f_law_c6 f_Lw_of
  simp only [if_pos g1, if_pos g2, hc, Option.bind_some]
  rcases hcs with ⟨rfl, e1, rfl⟩ | ⟨rfl, e1⟩ | ⟨rfl, e1⟩
  · simp only [if_true, Option.bind_some, hm, f_Mo_thrown, e1, up_0, lg_same, f_law_827]
    exact hK _ _ _ hR
  · simp [hm, f_Mo_thrown, e1, f_law_827]
    exact hK _ _ _ hR
  · simp [hm, f_Mo_thrown, e1, f_law_827]
    exact hK _ _ _ hR
theorem case_c7 (hi : i + 6 ≤ L) (hL : L ≤ 3072) (hK : LK K i) (h : Rel sc v) : f_law_c7 L xs K (nI i) sc ov v = some 1 := by
  have g1 := g_in (j := 1) hi hL (by decide) (z := 1) rfl
  have g2 := g_in (j := 2) hi hL (by decide) (z := 2) rfl
  have g3 := g_in (j := 3) hi hL (by decide) (z := 3) rfl
  obtain ⟨k, r, c', r', v', hc, hm, hcs, hR⟩ := run_sim h (xs (nI i + 1).toNatClampNeg) (xs (nI i + 2).toNatClampNeg) (xs (nI i + 3).toNatClampNeg)
  unfold f_law_c7 f_Lw_run
  simp only [if_pos g1, if_pos g2, if_pos g3, hc, Option.bind_some]
  rcases hcs with ⟨rfl, e1, rfl⟩ | ⟨rfl, e1⟩ | ⟨rfl, e1⟩
  · simp only [if_true, Option.bind_some, hm, f_Mo_thrown, e1, up_0, lg_same, f_law_827]
    exact hK _ _ _ hR
  · simp [hm, f_Mo_thrown, e1, f_law_827]
    exact hK _ _ _ hR
  · simp [hm, f_Mo_thrown, e1, f_law_827]
    exact hK _ _ _ hR
theorem case_c8 (hi : i + 6 ≤ L) (hL : L ≤ 3072) (hK : LK K i) (h : Rel sc v) : f_law_c8 L xs K (nI i) sc ov v = some 1 := by
  have g1 := g_in (j := 1) hi hL (by decide) (z := 1) rfl
  have g2 := g_in (j := 2) hi hL (by decide) (z := 2) rfl
  obtain ⟨k, r, c', r', v', hc, hm, hcs, hR⟩ := late_sim h (xs (nI i + 1).toNatClampNeg) (xs (nI i + 2).toNatClampNeg)
  unfold f_law_c8 f_Lw_late
  simp only [if_pos g1, if_pos g2, hc, Option.bind_some]
  rcases hcs with ⟨rfl, e1, rfl⟩ | ⟨rfl, e1⟩ | ⟨rfl, e1⟩ | ⟨rfl, e1⟩
  · simp only [if_true, Option.bind_some, hm, f_Mo_thrown, e1, up_0, lg_same, f_law_827]
    exact hK _ _ _ hR
  · simp [hm, f_Mo_thrown, e1, f_law_827]
    exact hK _ _ _ hR
  · simp [hm, f_Mo_thrown, e1, f_law_827]
    exact hK _ _ _ hR
  · simp [hm, f_Mo_thrown, e1, f_law_827]
    exact hK _ _ _ hR
theorem case_c9 (hi : i + 6 ≤ L) (hL : L ≤ 3072) (hK : LK K i) (h : Rel sc v) : f_law_c9 L xs K (nI i) sc ov v = some 1 := by
  have g1 := g_in (j := 1) hi hL (by decide) (z := 1) rfl
  obtain ⟨k, r, c', r', v', hc, hm, hcs, hR⟩ := home_sim h (xs (nI i + 1).toNatClampNeg)
  unfold f_law_c9 f_Lw_home
  simp only [if_pos g1, hc, Option.bind_some]
  rcases hcs with ⟨rfl, e1, rfl⟩ | ⟨rfl, e1⟩
  · simp only [if_true, Option.bind_some, hm, f_Mo_thrown, e1, up_0, lg_same, f_law_827]
    exact hK _ _ _ hR
  · simp [hm, f_Mo_thrown, e1, f_law_827]
    exact hK _ _ _ hR
theorem case_c10 (hi : i + 6 ≤ L) (hL : L ≤ 3072) (hK : LK K i) (h : Rel sc v) : f_law_c10 L xs K (nI i) sc ov v = some 1 := by
  have g1 := g_in (j := 1) hi hL (by decide) (z := 1) rfl
  have g2 := g_in (j := 2) hi hL (by decide) (z := 2) rfl
  obtain ⟨k, r, r', v', hc, hm, hcs, hR⟩ := rate_sim h (xs (nI i + 1).toNatClampNeg) (xs (nI i + 2).toNatClampNeg)
  unfold f_law_c10 f_Lw_rate
  simp only [if_pos g1, if_pos g2, hc, Option.bind_some]
  rcases hcs with ⟨rfl, e1, rfl⟩ | ⟨rfl, e1⟩ | ⟨rfl, e1⟩
  · simp only [if_true, Option.bind_some, hm, f_Mo_thrown, e1, up_0, lg_same, f_law_827]
    exact hK _ _ _ hR
  · simp [hm, f_Mo_thrown, e1, f_law_827]
    exact hK _ _ _ hR
  · simp [hm, f_Mo_thrown, e1, f_law_827]
    exact hK _ _ _ hR
theorem case_c11 (hi : i + 6 ≤ L) (hL : L ≤ 3072) (hK : LK K i) (h : Rel sc v) : f_law_c11 L xs K (nI i) sc ov v = some 1 := by
  have g1 := g_in (j := 1) hi hL (by decide) (z := 1) rfl
  obtain ⟨r, c', v', hc, hm, hR⟩ := count_sim h (xs (nI i + 1).toNatClampNeg)
  unfold f_law_c11
  simp only [if_pos g1, hc, hm, Option.bind_some, if_true, f_law_827]
  exact hK _ _ _ hR
end LP
theorem law_loop {L : Nat} (hL : L ≤ 3072) (xs : Nat → Int32) : ∀ (n i : Nat) (sc : St) (ov : Nat → Int64) (v : St), Rel sc v → i ≤ L → L < i + 6 * n → f_law_23 L xs n (nI i) sc ov v = some 1 := by
  intro n
  induction n with
  | zero => intro i sc ov v h h1 h2; omega
  | succ n ih =>
    intro i sc ov v h h1 h2
    show b_law_23 L xs (f_law_23 L xs n) (nI i) sc ov v = some 1
    unfold b_law_23
    rcases Nat.lt_or_ge L (i + 6) with h3 | h3
    · rw [if_pos]
      apply Int32.lt_iff_toInt_lt.mpr
      show (nI L - nI 6).toInt < (nI i).toInt
      rw [pk_sub_toInt (by omega) (by decide), nI_toInt (by omega)]
      omega
    · rw [if_neg]
      · have hK : LK (f_law_23 L xs n) i := fun sc' ov' v' h' => by
          show f_law_23 L xs n (nI i + nI 6) sc' ov' v' = some 1
          rw [nI_add]
          exact ih (i + 6) sc' ov' v' h' h3 (by omega)
        have g0 : xin (nI i) L := vp_in_nI (by omega) (by omega)
        rw [if_pos g0]
        by_cases q0 : (xs (nI i).toNatClampNeg &&& 15) = 0
        · rw [if_pos q0]; exact case_c0 h3 hL hK h
        rw [if_neg q0]
        by_cases q1 : (xs (nI i).toNatClampNeg &&& 15) = 1
        · rw [if_pos q1]; exact case_c1 h3 hL hK h
        rw [if_neg q1]
        by_cases q2 : (xs (nI i).toNatClampNeg &&& 15) = 2
        · rw [if_pos q2]; exact case_c2 h3 hL hK h
        rw [if_neg q2]
        by_cases q3 : (xs (nI i).toNatClampNeg &&& 15) = 3
        · rw [if_pos q3]; exact case_c3 h3 hL hK h
        rw [if_neg q3]
        by_cases q4 : (xs (nI i).toNatClampNeg &&& 15) = 4
        · rw [if_pos q4]; exact case_c4 hK h
        rw [if_neg q4]
        by_cases q5 : (xs (nI i).toNatClampNeg &&& 15) = 5
        · rw [if_pos q5]; exact case_c5 h3 hL hK h
        rw [if_neg q5]
        by_cases q6 : (xs (nI i).toNatClampNeg &&& 15) = 6
        · rw [if_pos q6]; exact case_c6 h3 hL hK h
        rw [if_neg q6]
        by_cases q7 : (xs (nI i).toNatClampNeg &&& 15) = 7
        · rw [if_pos q7]; exact case_c7 h3 hL hK h
        rw [if_neg q7]
        by_cases q8 : (xs (nI i).toNatClampNeg &&& 15) = 8
        · rw [if_pos q8]; exact case_c8 h3 hL hK h
        rw [if_neg q8]
        by_cases q9 : (xs (nI i).toNatClampNeg &&& 15) = 9
        · rw [if_pos q9]; exact case_c9 h3 hL hK h
        rw [if_neg q9]
        by_cases q10 : (xs (nI i).toNatClampNeg &&& 15) = 10
        · rw [if_pos q10]; exact case_c10 h3 hL hK h
        rw [if_neg q10]
        by_cases q11 : (xs (nI i).toNatClampNeg &&& 15) = 11
        · rw [if_pos q11]; exact case_c11 h3 hL hK h
        rw [if_neg q11]
        exact hK _ _ _ h
      · intro h9
        have h9 := Int32.lt_iff_toInt_lt.mp h9
        have h9 : (nI L - nI 6).toInt < (nI i).toInt := h9
        rw [pk_sub_toInt (by omega) (by decide), nI_toInt (by omega)] at h9
        omega
def sM1 : St := (fun k => if k = 5 then 3 else 0, fun _ _ => 0)
theorem rel_start : Rel sC0 sM1 := by
  refine ⟨0, 0, 0, 0, 3, fun _ _ => 0, 0, ⟨by omega, by omega, by omega, by omega, by omega, fun i hi => by omega, fun i hi => by omega, fun i hi => by omega⟩, by omega, ⟨rfl, rfl, rfl, rfl, rfl, rfl, fun _ _ _ => rfl⟩, ⟨rfl, rfl, rfl, rfl, rfl, rfl, fun _ _ _ => rfl⟩, fun g ch set _ _ _ => Or.inl rfl, fun h => by cases h⟩
theorem pure_law9 {L : Nat} (hL : L ≤ 3072) (xs : Nat → Int32) : f_law_23 L xs 513 0 sC0 (fun _ => 0) sM1 = some 1 := law_loop hL xs 513 0 sC0 (fun _ => 0) sM1 rel_start (Nat.zero_le _) (by omega)
