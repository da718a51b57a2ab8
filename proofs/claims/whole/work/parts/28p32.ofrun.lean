/-! both sides: of, run, count -/
theorem relI {c v : St} (h : Rel c v) (y : Int32) : Rel c (sI v 0 y) := by
  obtain ⟨nC, nS, nP, g, o, d, pl, hA, hp, hC, hM, hK, hPl⟩ := h
  exact ⟨nC, nS, nP, g, o, d, pl, hA, hp, hC, hM, hK, fun h => (hPl h).keep (fun _ _ => rfl) (fun _ _ => rfl)⟩
theorem of_err {v : St} (x1 x2 : Int32) {y : Int32} (hy : ¬ y ≤ 0) : f_Mo_of_35 x1 x2 y v = some (0, sI v 0 y) := by
  unfold f_Mo_of_35
  rw [xl, if_neg (show ¬ (sI v 0 y).1 0 ≤ 0 from hy)]
theorem of_sim {c v : St} (h : Rel c v) (x1 x2 : Int32) : ∃ (k : Nat) (r : Int32) (c' : St) (r' : Int32) (v' : St), f_LR_of x1 x2 c = some ((k, r), c') ∧ f_Mo_of x1 x2 v = some (r', v') ∧ ((k = 0 ∧ v'.1 0 = 0 ∧ r = r') ∨ (k = 3 ∧ v'.1 0 = 1) ∨ (k = 2 ∧ v'.1 0 = 2)) ∧ Rel c' v' := by
  obtain ⟨nC, nS, nP, g, o, d, pl, hA, hp, hC, hM, hK, hPl⟩ := id h
  have hn := hA.2.1
  unfold f_LR_of f_Mo_of f_Mo_of_19
  rw [fl_has_eq hC.2.2.1 hn, mo_isShip_eq hM.2.1, Option.bind_some, Option.bind_some]
  dsimp only
  by_cases hx : 0 ≤ x1 ∧ x1 < nI nS
  · rw [if_pos hx, if_neg one_ne, if_neg one_ne, within_eq, in_eq, Option.bind_some, Option.bind_some]
    dsimp only
    by_cases hx2 : (0 : Int32) ≤ x2 ∧ x2 ≤ 6
    · rw [if_pos hx2, if_neg one_ne, if_neg one_ne, has_plan hp hC, hM.2.2.2.2.2.1, Option.bind_some]
      dsimp only
      rcases (show pl = 0 ∨ pl = 1 by omega) with rfl | rfl
      · rw [if_pos (show nI 0 = 0 from rfl), if_pos (show nI 0 = 0 from rfl), of_err x1 x2 (show ¬ (2 : Int32) ≤ 0 by decide)]
        exact ⟨2, 0, c, 0, sI v 0 2, rfl, rfl, Or.inr (Or.inr ⟨rfl, rfl⟩), relI h 2⟩
      · rw [if_neg (show ¬ nI 1 = 0 from one_ne), if_neg (show ¬ nI 1 = 0 from one_ne)]
        obtain ⟨s, hs, rfl⟩ := ix_nat (by omega) hx
        obtain ⟨w, -, hw, rfl⟩ := in_nat (lo := 0) (hi := 6) (by omega) (by omega) hx2
        have hP := hPl rfl
        obtain ⟨r, c', v', q1, q2, q3, q4⟩ := of_core hA hC hM hP hs hw
        rw [q1, q2, Option.bind_some]
        have hM0 : RM nC nS nP g o d 1 (sI v 0 0) := hM
        exact ⟨0, r, c', r, v', rfl, rfl, Or.inl ⟨rfl, by rw [q4.1]; rfl, rfl⟩, nC, nS, nP, g, o, d, 1, hA, by decide, q3.RC hC, q4.RM hM0, Cache_of hK (q3.2.1 13 (by decide) (by decide)), fun _ => hP.keep (fun k hk => q3.2.1 k (by omega) (by omega)) (fun k hk => by rw [q4.2.1 k (by omega)]; rfl)⟩
    · rw [if_neg hx2, if_pos rfl, if_pos rfl, of_err x1 x2 (show ¬ (1 : Int32) ≤ 0 by decide)]
      exact ⟨3, 0, c, 0, sI v 0 1, rfl, rfl, Or.inr (Or.inl ⟨rfl, rfl⟩), relI h 1⟩
  · rw [if_neg hx, if_pos rfl, if_pos rfl, of_err x1 x2 (show ¬ (1 : Int32) ≤ 0 by decide)]
    exact ⟨3, 0, c, 0, sI v 0 1, rfl, rfl, Or.inr (Or.inl ⟨rfl, rfl⟩), relI h 1⟩
theorem run_err {v : St} (x1 x2 x3 : Int32) {y : Int32} (hy : ¬ y ≤ 0) : f_Mo_run_34 x1 x2 x3 y v = some (0, sI v 0 y) := by
  unfold f_Mo_run_34
  rw [xl, if_neg (show ¬ (sI v 0 y).1 0 ≤ 0 from hy)]
theorem ba_from {c : St} {set : Nat} (hset : set < 16) (h0 : set ≠ 0) : ∀ r s, s + r = firstN set → ∀ n, f_Tt_beginOfAll_bs_2 (n + r + 1) (nI set) (nI s) c = some (c.2 17 (firstN set), c) := by
  obtain ⟨f1, f2⟩ := firstN_bit hset h0
  have hf := firstN_lt set
  intro r
  induction r with
  | zero =>
    intro s hs n
    have hs : s = firstN set := by omega
    show b_Tt_beginOfAll_bs_2 (f_Tt_beginOfAll_bs_2 n) _ (nI s) c = _
    unfold b_Tt_beginOfAll_bs_2
    rw [if_neg (ge4 (by omega)), holds_t (by omega) hset (by rw [hs]; exact f1), Option.bind_some]
    dsimp only
    rw [if_neg one_ne, xi (show s < 4 by omega) (by decide), qcl (by omega), hs]
  | succ r ih =>
    intro s hs n
    have e : f_Tt_beginOfAll_bs_2 (n + (r + 1) + 1) (nI set) (nI s) c = b_Tt_beginOfAll_bs_2 (f_Tt_beginOfAll_bs_2 (n + r + 1)) (nI set) (nI s) c := rfl
    rw [e]
    unfold b_Tt_beginOfAll_bs_2
    rw [if_neg (ge4 (by omega)), holds_f (by omega) hset (f2 s (by omega)), Option.bind_some]
    dsimp only
    rw [if_pos rfl, nI_1]
    exact ih (s + 1) (by omega) n
theorem ba_eq {c : St} {set : Nat} (hset : set < 16) (h0 : set ≠ 0) : f_Tt_beginOfAll_bs (nI set) c = some (c.2 17 (firstN set), c) := by
  have hf := firstN_lt set
  have := ba_from (c := c) hset h0 (firstN set) 0 (by omega) (39 - firstN set)
  rw [show 39 - firstN set + firstN set + 1 = 40 by omega] at this
  exact this
theorem run_core {nC nS nP g o pl : Nat} {d : Nat → Nat → Nat} (hA : AbOk nC nS nP g o d) {c v : St} (hC : RC nC nS nP g o d pl c) (hM : RM nC nS nP g o d pl v) (hP : PlanOk nC nS d c v) {ch w : Nat} (hch : ch < nC) (hw : w ≤ 2) (x : Int32) : ∃ r, f_Pl_tellRun (nI ch) x (nI w) c = some (r, c) ∧ f_Mo_run_34 (nI ch) x (nI w) 0 v = some (r, sI v 0 0) := by
  have hn := hA.2.1
  have hC2 := hA.1
  have h16 := pw_le hn
  obtain ⟨b, chs, rs, p1, p2, p3⟩ := id hP
  have hM0 : RM nC nS nP g o d pl (sI v 0 0) := hM
  have h18 : ∀ s, s < nS → c.2 18 s = nI (chs s) ∧ chs s < 2 ^ 31 := fun s hs => ⟨(p1 s hs).2.1, by have := (p1 s hs).2.2.2.2.2.1; omega⟩
  have h19 : ∀ s, s < nS → c.2 19 s = nI (rs s) ∧ rs s < 4 := fun s hs => ⟨(p1 s hs).2.2.1, (p1 s hs).2.2.2.2.2.2.1⟩
  have hal := all_eq hA hC
  unfold f_Pl_tellRun f_Mo_run_34 f_Mo_run_68
  rw [hal, Option.bind_some, xl, if_pos (show (sI v 0 0).1 0 ≤ 0 from (by decide : (0 : Int32) ≤ 0)), in_eq, Option.bind_some]
  dsimp only
  by_cases hx : (0 : Int32) ≤ x ∧ x ≤ 3
  · obtain ⟨k, -, hk, rfl⟩ := in_nat (lo := 0) (hi := 3) (by omega) (by omega) hx
    rw [if_pos hx, if_neg one_ne, ab_eq hA h18 h19 (by omega) (by omega), Option.bind_some, m4, shipsOf_eq hA hM0 (a := fun s => 4 * chs s + rs s) (fun s hs => ⟨(p1 s hs).2.2.2.2.1, by have := (p1 s hs).2.2.2.2.2.1; have := (p1 s hs).2.2.2.2.2.2.1; omega⟩) (by omega), Option.bind_some]
    dsimp only
    have hset := setA_pow (a := fun s => 4 * chs s + rs s) hn (4 * ch + k)
    by_cases hz : setA nS (fun s => 4 * chs s + rs s) (4 * ch + k) = 0
    · rw [hz, if_pos (show nI 0 = 0 from rfl), if_pos (show nI 0 = 0 from rfl)]
      exact ⟨-1, rfl, rfl⟩
    · have hz' : ¬ nI (setA nS (fun s => 4 * chs s + rs s) (4 * ch + k)) = 0 := fun h => hz ((nI_eq (b := 0) (by omega) (by omega)).mp h)
      have hfb := (firstN_bit (by omega) hz).1
      have hfl := firstN_lt (setA nS (fun s => 4 * chs s + rs s) (4 * ch + k))
      have hfn := bit_lt hset hfb
      rw [if_neg hz', if_neg hz', first_eq (by omega) hz]
      have hw3 : w = 0 ∨ w = 1 ∨ w = 2 := by omega
      rcases hw3 with rfl | rfl | rfl
      · rw [if_pos (show nI 0 = 0 from rfl), if_pos (show nI 0 = 0 from rfl), ba_eq (by omega) hz, Option.bind_some, Option.bind_some]
        dsimp only
        rw [xi hfl (by decide), qcl (by omega), (p1 _ hfn).1]
        refine ⟨_, rfl, ?_⟩
        rw [show (sI v 0 0).2 16 (firstN (setA nS (fun s => 4 * chs s + rs s) (4 * ch + k))) = v.2 16 (firstN (setA nS (fun s => 4 * chs s + rs s) (4 * ch + k))) from rfl, (p1 _ hfn).2.2.2.1]
      · rw [if_neg (show ¬ nI 1 = 0 by decide), if_neg (show ¬ nI 1 = 0 by decide), if_pos (show nI 1 = 1 from rfl), if_pos (show nI 1 = 1 from rfl), Option.bind_some]
        dsimp only
        obtain ⟨y, hy, hor⟩ := cd_eq hA hset hC
        have hone : oneW d (setA nS (fun s => 4 * chs s + rs s) (4 * ch + k)) := fun s hs hb => by
          obtain ⟨a1, a2⟩ := (setA_bit hn _ _).mp hb
          obtain ⟨b1, b2⟩ := (setA_bit hn _ _).mp hfb
          have a2' : 4 * chs s + rs s = 4 * ch + k := a2
          have b2' : 4 * chs (firstN (setA nS (fun s => 4 * chs s + rs s) (4 * ch + k))) + rs (firstN (setA nS (fun s => 4 * chs s + rs s) (4 * ch + k))) = 4 * ch + k := b2
          have r1 := (h19 s a1).2
          have r2 := (h19 _ b1).2
          exact (p2 s _ a1 b1 (by omega) (by omega)).1
        rcases hor with ⟨-, -, rfl⟩ | ⟨h9, -⟩
        · rw [hy, Option.bind_some, xi hfl (by decide), qcl (by omega), hM0.2.2.2.2.2.2 9 (by decide)]
          exact ⟨_, rfl, rfl⟩
        · exact absurd ⟨hz, hone⟩ h9
      · rw [if_neg (show ¬ nI 2 = 0 by decide), if_neg (show ¬ nI 2 = 0 by decide), if_neg (show ¬ nI 2 = 1 by decide), if_neg (show ¬ nI 2 = 1 by decide), if_pos (show nI 2 = 2 from rfl)]
        exact ⟨_, rfl, rfl⟩
  · rw [if_neg hx, if_pos rfl, ab_out hA h18 h19 (by omega) hx, Option.bind_some]
    dsimp only
    rw [if_pos rfl, if_pos rfl]
    exact ⟨-1, rfl, rfl⟩
theorem run_sim {c v : St} (h : Rel c v) (x1 x2 x3 : Int32) : ∃ (k : Nat) (r : Int32) (c' : St) (r' : Int32) (v' : St), f_LR_run x1 x2 x3 c = some ((k, r), c') ∧ f_Mo_run x1 x2 x3 v = some (r', v') ∧ ((k = 0 ∧ v'.1 0 = 0 ∧ r = r') ∨ (k = 3 ∧ v'.1 0 = 1) ∨ (k = 2 ∧ v'.1 0 = 2)) ∧ Rel c' v' := by
  obtain ⟨nC, nS, nP, g, o, d, pl, hA, hp, hC, hM, hK, hPl⟩ := id h
  have hn := hA.2.1
  have hC2 := hA.1
  unfold f_LR_run f_Mo_run f_Mo_run_18
  rw [ch_has_eq hC.1 hC2, mo_isChamber_eq hM.1, Option.bind_some, Option.bind_some]
  dsimp only
  by_cases hx : 0 ≤ x1 ∧ x1 < nI nC
  · rw [if_pos hx, if_neg one_ne, if_neg one_ne, within_eq, in_eq, Option.bind_some, Option.bind_some]
    dsimp only
    by_cases hx2 : (0 : Int32) ≤ x3 ∧ x3 ≤ 2
    · rw [if_pos hx2, if_neg one_ne, if_neg one_ne, has_plan hp hC, hM.2.2.2.2.2.1, Option.bind_some]
      dsimp only
      rcases (show pl = 0 ∨ pl = 1 by omega) with rfl | rfl
      · rw [if_pos (show nI 0 = 0 from rfl), if_pos (show nI 0 = 0 from rfl), run_err x1 x2 x3 (show ¬ (2 : Int32) ≤ 0 by decide)]
        exact ⟨2, 0, c, 0, sI v 0 2, rfl, rfl, Or.inr (Or.inr ⟨rfl, rfl⟩), relI h 2⟩
      · rw [if_neg (show ¬ nI 1 = 0 from one_ne), if_neg (show ¬ nI 1 = 0 from one_ne)]
        obtain ⟨ch, hch, rfl⟩ := ix_nat (by omega) hx
        obtain ⟨w, -, hw, rfl⟩ := in_nat (lo := 0) (hi := 2) (by omega) (by omega) hx2
        obtain ⟨r, q1, q2⟩ := run_core hA hC hM (hPl rfl) hch hw x2
        rw [q1, q2, Option.bind_some]
        exact ⟨0, r, c, r, sI v 0 0, rfl, rfl, Or.inl ⟨rfl, rfl, rfl⟩, relI h 0⟩
    · rw [if_neg hx2, if_pos rfl, if_pos rfl, run_err x1 x2 x3 (show ¬ (1 : Int32) ≤ 0 by decide)]
      exact ⟨3, 0, c, 0, sI v 0 1, rfl, rfl, Or.inr (Or.inl ⟨rfl, rfl⟩), relI h 1⟩
  · rw [if_neg hx, if_pos rfl, if_pos rfl, run_err x1 x2 x3 (show ¬ (1 : Int32) ≤ 0 by decide)]
    exact ⟨3, 0, c, 0, sI v 0 1, rfl, rfl, Or.inr (Or.inl ⟨rfl, rfl⟩), relI h 1⟩
/-! count -/
def ruF (chs rs : Nat → Nat) (ch : Nat) : Nat → Nat → Nat → Nat
  | _, 0, n => n
  | s, r + 1, n => ruF chs rs ch (s + 1) r (if chs s = ch then (if n < rs s + 1 then rs s + 1 else n) else n)
theorem ruF_prop {chs rs : Nat → Nat} {ch : Nat} : ∀ r s n, n ≤ ruF chs rs ch s r n ∧ (∀ t, s ≤ t → t < s + r → chs t = ch → rs t < ruF chs rs ch s r n) ∧ (ruF chs rs ch s r n = n ∨ ∃ t, s ≤ t ∧ t < s + r ∧ chs t = ch ∧ ruF chs rs ch s r n = rs t + 1) := by
  intro r
  induction r with
  | zero => intro s n; exact ⟨Nat.le_refl _, fun t h1 h2 => by omega, Or.inl rfl⟩
  | succ r ih =>
    intro s n
    obtain ⟨h1, h2, h3⟩ := ih (s + 1) (if chs s = ch then (if n < rs s + 1 then rs s + 1 else n) else n)
    have e : ruF chs rs ch s (r + 1) n = ruF chs rs ch (s + 1) r (if chs s = ch then (if n < rs s + 1 then rs s + 1 else n) else n) := rfl
    rw [e]
    refine ⟨Nat.le_trans ?_ h1, fun t p1 p2 p3 => ?_, ?_⟩
    · split
      · split <;> omega
      · exact Nat.le_refl _
    · rcases Nat.eq_or_lt_of_le p1 with rfl | p1
      · refine Nat.lt_of_lt_of_le ?_ h1
        rw [if_pos p3]
        split <;> omega
      · exact h2 t p1 (by omega) p3
    · rcases h3 with h3 | ⟨t, q1, q2, q3, q4⟩
      · rw [h3]
        by_cases hc : chs s = ch
        · rw [if_pos hc]
          by_cases hl : n < rs s + 1
          · rw [if_pos hl]
            exact Or.inr ⟨s, Nat.le_refl _, by omega, hc, rfl⟩
          · rw [if_neg hl]
            exact Or.inl rfl
        · rw [if_neg hc]
          exact Or.inl rfl
      · exact Or.inr ⟨t, by omega, by omega, q3, q4⟩
theorem runs_from {nC nS nP g o pl : Nat} {d : Nat → Nat → Nat} (hA : AbOk nC nS nP g o d) {c : St} (hC : RC nC nS nP g o d pl c) {chs rs : Nat → Nat} (h18 : ∀ s, s < nS → c.2 18 s = nI (chs s) ∧ chs s < 2 ^ 31) (h19 : ∀ s, s < nS → c.2 19 s = nI (rs s) ∧ rs s < 4) {ch : Nat} (hch : ch < 2 ^ 31) : ∀ r s, s + r = nS → ∀ t, t ≤ 4 → ∀ n, f_Pl_runs_4 (n + r + 1) (nI ch) (nI t) (nI s) c = some (nI (ruF chs rs ch s r t), c) := by
  have hn := hA.2.1
  intro r
  induction r with
  | zero =>
    intro s hs t ht n
    have hs : s = nS := by omega
    subst hs
    show b_Pl_runs_4 (f_Pl_runs_4 n) _ _ (nI s) c = _
    unfold b_Pl_runs_4 f_Fl_size
    rw [Option.bind_some]
    dsimp only
    rw [hC.2.2.1, if_pos (nI_le (Nat.le_refl _) (by omega))]
    rfl
  | succ r ih =>
    intro s hs t ht n
    have hsn : s < nS := by omega
    have e : f_Pl_runs_4 (n + (r + 1) + 1) (nI ch) (nI t) (nI s) c = b_Pl_runs_4 (f_Pl_runs_4 (n + r + 1)) (nI ch) (nI t) (nI s) c := rfl
    have eF : ruF chs rs ch s (r + 1) t = ruF chs rs ch (s + 1) r (if chs s = ch then (if t < rs s + 1 then rs s + 1 else t) else t) := rfl
    have hr := (h19 s hsn).2
    rw [e, eF]
    unfold b_Pl_runs_4 f_Fl_size f_Pl_runs_42
    rw [Option.bind_some]
    dsimp only
    rw [hC.2.2.1, if_neg (nI_ge hsn (by omega)), g18 (by omega), Option.bind_some]
    dsimp only
    rw [(h18 s hsn).1, nI_1]
    by_cases hc : chs s = ch
    · rw [if_pos (show nI (chs s) = nI ch by rw [hc]), if_pos hc, g19 (by omega), Option.bind_some]
      dsimp only
      rw [xl, (h19 s hsn).1, nI_1]
      by_cases hl : t < rs s + 1
      · rw [if_pos hl, if_pos (nI_lt hl (by omega))]
        exact ih (s + 1) (by omega) _ (by omega) n
      · rw [if_neg hl, if_neg (show ¬ nI t < nI (rs s + 1) from fun h => hl ((nI_ltI (by omega) (by omega)).mp h))]
        exact ih (s + 1) (by omega) _ ht n
    · rw [if_neg (show ¬ nI (chs s) = nI ch from fun h => hc ((nI_eq (h18 s hsn).2 hch).mp h)), if_neg hc]
      exact ih (s + 1) (by omega) _ ht n
/-- the end of the reference's count -/
def cntFin (x1 x2 : Int32) (st : St) : Option (Int32 × St) := (if x1 = 0 then some (st.1 1, st) else (if x1 = 1 then some (st.1 2, st) else (if x1 = 2 then some (st.1 3, st) else (if x1 = 3 then (if (st.1 6) = 0 then some (0, st) else some (1, st)) else (if x1 = 4 then some (st.1 4, st) else (if x1 = 5 then some (st.1 5, st) else (if x1 = 6 then (if (st.1 6) = 0 then some ((-1), st) else (f_Mo_isChamber (x1 - 6) st).bind (fun o2 => (if o2.1 = 0 then some ((-1), o2.2) else some (x2, o2.2)))) else (if x1 = 7 then (if (st.1 6) = 0 then some ((-1), st) else (f_Mo_isChamber (x1 - 6) st).bind (fun o3 => (if o3.1 = 0 then some ((-1), o3.2) else some (x2, o3.2)))) else some ((-1), st)))))))))
section CN
variable {nC nS nP g o pl : Nat} {d : Nat → Nat → Nat}
theorem cnt_skip {v : St} (hM : RM nC nS nP g o d pl v) (x1 x2 : Int32) (hno : v.1 6 = 0 ∨ ¬ (0 ≤ x1 - 6 ∧ x1 - 6 < nI nC)) : ∀ m k, k + m = 4 → ∀ n, f_Mo_count_9 (n + m + 1) x1 x2 (nI k) v = cntFin x1 x2 v := by
  intro m
  induction m with
  | zero =>
    intro k hk n
    have hk : k = 4 := by omega
    subst hk
    show b_Mo_count_9 (f_Mo_count_9 n) _ _ (nI 4) v = _
    unfold b_Mo_count_9
    rw [if_pos (show (4 : Int32) ≤ nI 4 by decide)]
    rfl
  | succ m ih =>
    intro k hk n
    have e : f_Mo_count_9 (n + (m + 1) + 1) x1 x2 (nI k) v = b_Mo_count_9 (f_Mo_count_9 (n + m + 1)) x1 x2 (nI k) v := rfl
    have e52 : f_Mo_count_52 (f_Mo_count_9 (n + m + 1)) x1 (nI k) x2 v = cntFin x1 x2 v := by
      unfold f_Mo_count_52 f_Mo_count_53
      rw [xl, nI_1, Int32.add_zero]
      exact ih (k + 1) (by omega) n
    rw [e]
    unfold b_Mo_count_9
    rw [if_neg (ge4 (by omega)), mo_isChamber_eq hM.1, Option.bind_some]
    dsimp only
    rw [e52]
    rcases hno with h | h
    · rw [if_pos h]
    · rw [if_neg h, if_pos rfl, ite_self]
theorem cnt_do (hA : AbOk nC nS nP g o d) {v : St} (hM : RM nC nS nP g o d pl v) (h6 : ¬ v.1 6 = 0) {x1 : Int32} {ch : Nat} (hch : ch < nC) (hx : x1 - 6 = nI ch) {a : Nat → Nat} (ha : ∀ s, s < nS → v.2 15 s = nI (a s) ∧ a s < 2 ^ 31) {R : Nat} (hR : ∀ k, k < 4 → (setA nS a (4 * ch + k) ≠ 0 ↔ k < R)) : ∀ m k, k + m = 4 → ∀ n, f_Mo_count_9 (n + m + 1) x1 (nI (min k R)) (nI k) v = cntFin x1 (nI (min 4 R)) v := by
  have hn := hA.2.1
  have hC2 := hA.1
  have h16 := pw_le hn
  intro m
  induction m with
  | zero =>
    intro k hk n
    have hk : k = 4 := by omega
    subst hk
    show b_Mo_count_9 (f_Mo_count_9 n) _ _ (nI 4) v = _
    unfold b_Mo_count_9
    rw [if_pos (show (4 : Int32) ≤ nI 4 by decide)]
    rfl
  | succ m ih =>
    intro k hk n
    have e : f_Mo_count_9 (n + (m + 1) + 1) x1 (nI (min k R)) (nI k) v = b_Mo_count_9 (f_Mo_count_9 (n + m + 1)) x1 (nI (min k R)) (nI k) v := rfl
    have hset := setA_pow (a := a) hn (4 * ch + k)
    rw [e]
    unfold b_Mo_count_9
    rw [if_neg (ge4 (by omega)), if_neg h6, mo_isChamber_eq hM.1, Option.bind_some, hx]
    dsimp only
    rw [if_pos (show 0 ≤ nI ch ∧ nI ch < nI nC from ⟨nI_pos' (by omega), nI_lt hch (by omega)⟩), if_neg one_ne, m4, shipsOf_eq hA hM ha (by omega), Option.bind_some]
    dsimp only
    unfold f_Mo_count_52 f_Mo_count_53
    rw [xl, xl, nI_1, nI_1, Int32.add_zero]
    by_cases hz : setA nS a (4 * ch + k) = 0
    · have hk2 : ¬ k < R := fun h => (hR k (by omega)).mpr h hz
      rw [hz, if_pos (show nI 0 ≤ 0 by decide), show min k R = min (k + 1) R by omega]
      exact ih (k + 1) (by omega) n
    · have hk2 := (hR k (by omega)).mp hz
      rw [if_neg (show ¬ nI (setA nS a (4 * ch + k)) ≤ 0 from fun h => hz (by have := (nI_leI (b := 0) (by omega) (by omega)).mp h; omega)), show min k R + 1 = min (k + 1) R by omega]
      exact ih (k + 1) (by omega) n
theorem runsOf_no {c : St} (hA : AbOk nC nS nP g o d) (hC : RC nC nS nP g o d pl c) (hp : pl ≤ 1) (x : Int32) (h : pl = 0 ∨ ¬ (0 ≤ x ∧ x < nI nC)) : f_LR_runsOf x c = some (-1, c) := by
  unfold f_LR_runsOf
  rw [ch_has_eq hC.1 hA.1, Option.bind_some]
  dsimp only
  by_cases hx : 0 ≤ x ∧ x < nI nC
  · rw [if_pos hx, if_neg one_ne, has_plan hp hC, Option.bind_some]
    dsimp only
    rcases h with h | h
    · rw [h, if_pos (show nI 0 = 0 from rfl)]
    · exact absurd hx h
  · rw [if_neg hx, if_pos rfl]
/-- count of 6 and 7 -/
theorem cnt67 {c v : St} (h : Rel c v) {x1 : Int32} {j : Nat} (hj : j < 2) (hx : x1 - 6 = nI j) : ∃ y, f_LR_runsOf (nI j) c = some (y, c) ∧ ∃ z, f_Mo_count_9 40 x1 0 0 (sI v 0 0) = cntFin x1 z (sI v 0 0) ∧ ((sI v 0 0).1 6 = 0 ∧ y = -1 ∨ ¬ (sI v 0 0).1 6 = 0 ∧ ∃ w, f_Mo_isChamber (x1 - 6) (sI v 0 0) = some (w, sI v 0 0) ∧ (w = 0 ∧ y = -1 ∨ w = 1 ∧ y = z)) := by
  obtain ⟨nC, nS, nP, g, o, d, pl, hA, hp, hC, hM, hK, hPl⟩ := id h
  have hn := hA.2.1
  have hC2 := hA.1
  have hM0 : RM nC nS nP g o d pl (sI v 0 0) := hM
  by_cases hno : pl = 0 ∨ ¬ (0 ≤ nI j ∧ nI j < nI nC)
  · refine ⟨-1, runsOf_no hA hC hp (nI j) hno, 0, ?_, ?_⟩
    · exact cnt_skip hM0 x1 0 (by
        rcases hno with h9 | h9
        · exact Or.inl (by rw [hM0.2.2.2.2.2.1, h9]; rfl)
        · exact Or.inr (by rw [hx]; exact h9)) 4 0 rfl 35
    · rcases (show pl = 0 ∨ pl = 1 by omega) with rfl | rfl
      · exact Or.inl ⟨hM0.2.2.2.2.2.1, rfl⟩
      · refine Or.inr ⟨by rw [hM0.2.2.2.2.2.1]; exact one_ne, 0, ?_, Or.inl ⟨rfl, rfl⟩⟩
        rw [mo_isChamber_eq hM0.1, hx, if_neg]
        rcases hno with h9 | h9
        · cases h9
        · exact h9
  · have hpl : pl = 1 := by
      rcases (show pl = 0 ∨ pl = 1 by omega) with h9 | h9
      · exact absurd (Or.inl h9) hno
      · exact h9
    subst hpl
    have hch : j < nC := by
      rcases Nat.lt_or_ge j nC with h9 | h9
      · exact h9
      · refine absurd (Or.inr (fun h => ?_)) hno
        have := (nI_ltI (by omega) (by omega)).mp h.2
        omega
    obtain ⟨b, chs, rs, p1, p2, p3⟩ := hPl rfl
    have h18 : ∀ s, s < nS → c.2 18 s = nI (chs s) ∧ chs s < 2 ^ 31 := fun s hs => ⟨(p1 s hs).2.1, by have := (p1 s hs).2.2.2.2.2.1; omega⟩
    have h19 : ∀ s, s < nS → c.2 19 s = nI (rs s) ∧ rs s < 4 := fun s hs => ⟨(p1 s hs).2.2.1, (p1 s hs).2.2.2.2.2.2.1⟩
    have hru := runs_from hA hC h18 h19 (ch := j) (by omega) nS 0 (by omega) 0 (by omega) (39 - nS)
    rw [show 39 - nS + nS + 1 = 40 by omega] at hru
    obtain ⟨u1, u2, u3⟩ := ruF_prop (chs := chs) (rs := rs) (ch := j) nS 0 0
    have hR4 : ruF chs rs j 0 nS 0 ≤ 4 := by
      rcases u3 with u3 | ⟨t, q1, q2, q3, q4⟩
      · omega
      · have := (h19 t (by omega)).2
        omega
    have hR : ∀ k, k < 4 → (setA nS (fun s => 4 * chs s + rs s) (4 * j + k) ≠ 0 ↔ k < ruF chs rs j 0 nS 0) := fun k hk => by
      rw [setA_ne hn]
      constructor
      · rintro ⟨s, hs, he⟩
        have he' : 4 * chs s + rs s = 4 * j + k := he
        have hr := (h19 s hs).2
        have := u2 s (Nat.zero_le _) (by omega) (by omega)
        omega
      · intro hlt
        rcases u3 with u3 | ⟨t, q1, q2, q3, q4⟩
        · omega
        · rcases Nat.lt_or_ge k (rs t) with h9 | h9
          · obtain ⟨t', w1, w2, w3⟩ := p3 t (by omega) k h9
            exact ⟨t', w1, by show 4 * chs t' + rs t' = 4 * j + k; omega⟩
          · exact ⟨t, by omega, by show 4 * chs t + rs t = 4 * j + k; omega⟩
    have h6 : ¬ (sI v 0 0).1 6 = 0 := by rw [hM0.2.2.2.2.2.1]; exact one_ne
    have hcd := cnt_do hA hM0 h6 hch hx (a := fun s => 4 * chs s + rs s) (fun s hs => ⟨(p1 s hs).2.2.2.2.1, by have := (p1 s hs).2.2.2.2.2.1; have := (p1 s hs).2.2.2.2.2.2.1; omega⟩) hR 4 0 rfl 35
    rw [show min 0 (ruF chs rs j 0 nS 0) = 0 by omega, show min 4 (ruF chs rs j 0 nS 0) = ruF chs rs j 0 nS 0 by omega] at hcd
    refine ⟨nI (ruF chs rs j 0 nS 0), ?_, nI (ruF chs rs j 0 nS 0), hcd, Or.inr ⟨h6, 1, ?_, Or.inr ⟨rfl, rfl⟩⟩⟩
    · unfold f_LR_runsOf
      rw [hC.hasC hA hch, Option.bind_some]
      dsimp only
      rw [if_neg one_ne, has_plan hp hC, Option.bind_some]
      dsimp only
      rw [if_neg (show ¬ nI 1 = 0 from one_ne)]
      have hru2 : f_Pl_runs (nI j) c = some (nI (ruF chs rs j 0 nS 0), c) := hru
      rw [hru2, Option.bind_some]
    · rw [mo_isChamber_eq hM0.1, hx, if_pos ⟨nI_pos' (by omega), nI_lt hch (by omega)⟩]
end CN
theorem count_sim {c v : St} (h : Rel c v) (x1 : Int32) : Sim0 (f_LR_count x1 c) (f_Mo_count x1 v) := by
  obtain ⟨nC, nS, nP, g, o, d, pl, hA, hp, hC, hM, hK, hPl⟩ := id h
  have hn := hA.2.1
  have hC2 := hA.1
  have hM0 : RM nC nS nP g o d pl (sI v 0 0) := hM
  have hrel := relI h 0
  have e0 : f_Mo_count x1 v = f_Mo_count_9 40 x1 0 0 (sI v 0 0) := by
    unfold f_Mo_count
    rw [xl]
  rw [e0]
  by_cases q6 : x1 = 6
  · obtain ⟨y, h1, z, h2, h3⟩ := cnt67 h (x1 := x1) (j := 0) (by decide) (by rw [q6]; decide)
    rw [h2]
    subst q6
    have hc : f_LR_count 6 c = some (y, c) := by
      unfold f_LR_count
      rw [if_neg (by decide), if_neg (by decide), if_neg (by decide), if_neg (by decide), if_neg (by decide), if_neg (by decide), if_pos rfl]
      have h1' : f_LR_runsOf 0 c = some (y, c) := h1
      rw [h1', Option.bind_some]
    have hm : cntFin 6 z (sI v 0 0) = some (y, sI v 0 0) := by
      unfold cntFin
      rw [if_neg (by decide), if_neg (by decide), if_neg (by decide), if_neg (by decide), if_neg (by decide), if_neg (by decide), if_pos rfl]
      rcases h3 with ⟨h3, rfl⟩ | ⟨h3, w, h4, ⟨rfl, rfl⟩ | ⟨rfl, rfl⟩⟩
      · rw [if_pos h3]
      · rw [if_neg h3, h4, Option.bind_some]
        dsimp only
        rw [if_pos rfl]
      · rw [if_neg h3, h4, Option.bind_some]
        dsimp only
        rw [if_neg one_ne]
    rw [hc, hm]
    exact ⟨y, c, sI v 0 0, rfl, rfl, hrel⟩
  · by_cases q7 : x1 = 7
    · obtain ⟨y, h1, z, h2, h3⟩ := cnt67 h (x1 := x1) (j := 1) (by decide) (by rw [q7]; decide)
      rw [h2]
      subst q7
      have hc : f_LR_count 7 c = some (y, c) := by
        unfold f_LR_count
        rw [if_neg (by decide), if_neg (by decide), if_neg (by decide), if_neg (by decide), if_neg (by decide), if_neg (by decide), if_neg (by decide), if_pos rfl]
        have h1' : f_LR_runsOf 1 c = some (y, c) := h1
        rw [h1', Option.bind_some]
      have hm : cntFin 7 z (sI v 0 0) = some (y, sI v 0 0) := by
        unfold cntFin
        rw [if_neg (by decide), if_neg (by decide), if_neg (by decide), if_neg (by decide), if_neg (by decide), if_neg (by decide), if_neg (by decide), if_pos rfl]
        rcases h3 with ⟨h3, rfl⟩ | ⟨h3, w, h4, ⟨rfl, rfl⟩ | ⟨rfl, rfl⟩⟩
        · rw [if_pos h3]
        · rw [if_neg h3, h4, Option.bind_some]
          dsimp only
          rw [if_pos rfl]
        · rw [if_neg h3, h4, Option.bind_some]
          dsimp only
          rw [if_neg one_ne]
      rw [hc, hm]
      exact ⟨y, c, sI v 0 0, rfl, rfl, hrel⟩
    · have hno : ¬ (0 ≤ x1 - 6 ∧ x1 - 6 < nI nC) := fun h9 => by
        obtain ⟨j, hj, he⟩ := ix_nat (by omega) h9
        have e6 : x1 = nI (j + 6) := by
          have : x1 = (x1 - 6) + 6 := by rw [Int32.sub_add_cancel]
          rw [this, he, z6, nI_add]
        rcases (show j = 0 ∨ j = 1 by omega) with rfl | rfl
        · exact q6 e6
        · exact q7 e6
      rw [show f_Mo_count_9 40 x1 0 0 (sI v 0 0) = cntFin x1 0 (sI v 0 0) from cnt_skip hM0 x1 0 (Or.inr hno) 4 0 rfl 35]
      unfold cntFin f_LR_count
      rw [if_neg q6, if_neg q7, if_neg q6, if_neg q7]
      unfold f_Ch_size f_Fl_size f_Ch_spans f_Be_gap f_Pl_over
      rw [has_plan hp hC]
      simp only [Option.bind_some]
      rw [hC.1, hC.2.1, hC.2.2.1, hC.2.2.2.1, hC.2.2.2.2.1, hM0.1, hM0.2.1, hM0.2.2.1, hM0.2.2.2.1, hM0.2.2.2.2.1, hM0.2.2.2.2.2.1]
      by_cases q0 : x1 = 0
      · rw [if_pos q0, if_pos q0]
        exact ⟨_, c, sI v 0 0, rfl, rfl, hrel⟩
      · rw [if_neg q0, if_neg q0]
        by_cases q1 : x1 = 1
        · rw [if_pos q1, if_pos q1]
          exact ⟨_, c, sI v 0 0, rfl, rfl, hrel⟩
        · rw [if_neg q1, if_neg q1]
          by_cases q2 : x1 = 2
          · rw [if_pos q2, if_pos q2]
            exact ⟨_, c, sI v 0 0, rfl, rfl, hrel⟩
          · rw [if_neg q2, if_neg q2]
            by_cases q3 : x1 = 3
            · rw [if_pos q3, if_pos q3]
              by_cases hz : nI pl = 0
              · rw [if_pos hz, if_pos hz]
                exact ⟨_, c, sI v 0 0, rfl, rfl, hrel⟩
              · rw [if_neg hz, if_neg hz]
                exact ⟨_, c, sI v 0 0, rfl, rfl, hrel⟩
            · rw [if_neg q3, if_neg q3]
              by_cases q4 : x1 = 4
              · rw [if_pos q4, if_pos q4]
                exact ⟨_, c, sI v 0 0, rfl, rfl, hrel⟩
              · rw [if_neg q4, if_neg q4]
                by_cases q5 : x1 = 5
                · rw [if_pos q5, if_pos q5]
                  exact ⟨_, c, sI v 0 0, rfl, rfl, hrel⟩
                · rw [if_neg q5, if_neg q5]
                  exact ⟨_, c, sI v 0 0, rfl, rfl, hrel⟩
