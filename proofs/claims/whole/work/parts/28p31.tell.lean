/-! both sides: of, run -/
def abF (P : Nat → Bool) : Nat → Nat → Nat → Nat
  | _, 0, n => n
  | s, r + 1, n => abF P (s + 1) r (n ||| if P s = true then 2 ^ s else 0)
theorem abF_eq (P : Nat → Bool) : abF P 0 4 0 = mkS P := by
  show (((0 ||| if P 0 = true then 2 ^ 0 else 0) ||| if P 1 = true then 2 ^ 1 else 0) ||| if P 2 = true then 2 ^ 2 else 0) ||| (if P 3 = true then 2 ^ 3 else 0) = mkS P
  unfold mkS
  cases P 0 <;> cases P 1 <;> cases P 2 <;> cases P 3 <;> rfl
section T1
variable {nC nS nP g o pl : Nat} {d : Nat → Nat → Nat}
theorem ab_from (hA : AbOk nC nS nP g o d) {c : St} {chs rs : Nat → Nat} (h18 : ∀ s, s < nS → c.2 18 s = nI (chs s) ∧ chs s < 2 ^ 31) (h19 : ∀ s, s < nS → c.2 19 s = nI (rs s)) {ch : Nat} (hch : ch < 2 ^ 31) (x : Int32) : ∀ r s, s + r = 4 → ∀ t n, f_Tt_aboard_bs_6 (n + r + 1) (nI ch) x (nI (2 ^ nS - 1)) (nI t) (nI s) c = some (nI (abF (fun s => decide (s < nS ∧ chs s = ch ∧ nI (rs s) = x)) s r t), c) := by
  have hn := hA.2.1
  have hal := all_lt hn
  intro r
  induction r with
  | zero =>
    intro s hs t n
    have hs : s = 4 := by omega
    subst hs
    show b_Tt_aboard_bs_6 (f_Tt_aboard_bs_6 n) _ _ _ _ (nI 4) c = _
    unfold b_Tt_aboard_bs_6
    rw [if_pos (show (4 : Int32) ≤ nI 4 by decide)]
    rfl
  | succ r ih =>
    intro s hs t n
    have hs4 : s < 4 := by omega
    have e : f_Tt_aboard_bs_6 (n + (r + 1) + 1) (nI ch) x (nI (2 ^ nS - 1)) (nI t) (nI s) c = b_Tt_aboard_bs_6 (f_Tt_aboard_bs_6 (n + r + 1)) (nI ch) x (nI (2 ^ nS - 1)) (nI t) (nI s) c := rfl
    have eF : abF (fun s => decide (s < nS ∧ chs s = ch ∧ nI (rs s) = x)) s (r + 1) t = abF (fun s => decide (s < nS ∧ chs s = ch ∧ nI (rs s) = x)) (s + 1) r (t ||| if decide (s < nS ∧ chs s = ch ∧ nI (rs s) = x) = true then 2 ^ s else 0) := rfl
    have skip : decide (s < nS ∧ chs s = ch ∧ nI (rs s) = x) = false → f_Tt_aboard_bs_52 (f_Tt_aboard_bs_6 (n + r + 1)) (nI ch) x (nI (2 ^ nS - 1)) (nI t) (nI s) c = some (nI (abF (fun s => decide (s < nS ∧ chs s = ch ∧ nI (rs s) = x)) s (r + 1) t), c) := fun h => by
      rw [eF, h, if_neg (show ¬ (false = true) by decide), Nat.or_zero]
      unfold f_Tt_aboard_bs_52
      rw [nI_1]
      exact ih (s + 1) (by omega) t n
    rw [e]
    unfold b_Tt_aboard_bs_6
    rw [if_neg (ge4 hs4)]
    by_cases hsn : s < nS
    · rw [holds_t hs4 hal (by rw [all_bit]; exact decide_eq_true hsn), Option.bind_some]
      dsimp only
      rw [if_neg one_ne]
      simp only [xi hs4 (by decide), qcl (show s < 2 ^ 31 by omega), (h18 s hsn).1, h19 s hsn]
      by_cases h1 : chs s = ch
      · rw [if_pos (show nI (chs s) = nI ch by rw [h1])]
        by_cases h2 : nI (rs s) = x
        · rw [if_pos h2, xl, q_bit (by omega), q_or, eF, if_pos (decide_eq_true ⟨hsn, h1, h2⟩)]
          unfold f_Tt_aboard_bs_52
          rw [nI_1]
          exact ih (s + 1) (by omega) _ n
        · rw [if_neg h2]
          exact skip (decide_eq_false (fun h => h2 h.2.2))
      · rw [if_neg (show ¬ nI (chs s) = nI ch from fun h => h1 ((nI_eq (h18 s hsn).2 hch).mp h))]
        exact skip (decide_eq_false (fun h => h1 h.2.1))
    · rw [holds_f hs4 hal (by rw [all_bit]; exact decide_eq_false hsn), Option.bind_some]
      dsimp only
      rw [if_pos rfl]
      exact skip (decide_eq_false (fun h => hsn h.1))
theorem ab_eq (hA : AbOk nC nS nP g o d) {c : St} {chs rs : Nat → Nat} (h18 : ∀ s, s < nS → c.2 18 s = nI (chs s) ∧ chs s < 2 ^ 31) (h19 : ∀ s, s < nS → c.2 19 s = nI (rs s) ∧ rs s < 4) {ch k : Nat} (hch : ch < 2 ^ 31) (hk : k < 4) : f_Tt_aboard_bs (nI ch) (nI k) (nI (2 ^ nS - 1)) c = some (nI (setA nS (fun s => 4 * chs s + rs s) (4 * ch + k)), c) := by
  have h := ab_from hA h18 (fun s hs => (h19 s hs).1) hch (nI k) 4 0 rfl 0 35
  rw [abF_eq] at h
  have e : mkS (fun s => decide (s < nS ∧ chs s = ch ∧ nI (rs s) = nI k)) = setA nS (fun s => 4 * chs s + rs s) (4 * ch + k) := by
    unfold setA
    congr 1
    funext s
    rw [decide_eq_decide]
    constructor
    · rintro ⟨h1, h2, h3⟩
      have h4 := (h19 s h1).2
      have h5 := (nI_eq (by omega) (by omega)).mp h3
      exact ⟨h1, by show 4 * chs s + rs s = 4 * ch + k; rw [h2, h5]⟩
    · rintro ⟨h1, h2⟩
      have h4 := (h19 s h1).2
      have h2' : 4 * chs s + rs s = 4 * ch + k := h2
      exact ⟨h1, by omega, by rw [show rs s = k by omega]⟩
  rw [e] at h
  exact h
theorem ab_out (hA : AbOk nC nS nP g o d) {c : St} {chs rs : Nat → Nat} (h18 : ∀ s, s < nS → c.2 18 s = nI (chs s) ∧ chs s < 2 ^ 31) (h19 : ∀ s, s < nS → c.2 19 s = nI (rs s) ∧ rs s < 4) {ch : Nat} (hch : ch < 2 ^ 31) {x : Int32} (hx : ¬ (0 ≤ x ∧ x ≤ 3)) : f_Tt_aboard_bs (nI ch) x (nI (2 ^ nS - 1)) c = some (0, c) := by
  have h := ab_from hA h18 (fun s hs => (h19 s hs).1) hch x 4 0 rfl 0 35
  rw [abF_eq] at h
  have e : mkS (fun s => decide (s < nS ∧ chs s = ch ∧ nI (rs s) = x)) = 0 := by
    refine set_ext (mkS_lt _) (by decide) (fun s hs => ?_)
    rw [mkS_bit _ hs, Nat.zero_testBit]
    refine decide_eq_false ?_
    rintro ⟨h1, h2, h3⟩
    have h4 := (h19 s h1).2
    refine hx ?_
    rw [← h3]
    exact ⟨nI_pos' (by omega), nI_le (b := 3) (by omega) (by decide)⟩
  rw [e] at h
  exact h
/-- both lay the run of a ship -/
theorem layrun (hA : AbOk nC nS nP g o d) {c v : St} (hC : RC nC nS nP g o d pl c) (hM : RM nC nS nP g o d pl v) {chs rs : Nat → Nat} (h18 : ∀ s, s < nS → c.2 18 s = nI (chs s) ∧ chs s < nC) (h19 : ∀ s, s < nS → c.2 19 s = nI (rs s) ∧ rs s < 4) {s : Nat} (hs : s < nS) : ∃ y c' v', f_Pl_layRunOf (nI s) c = some (y, c') ∧ f_Mo_lay (nI (chs s)) (nI (setA nS (fun s => 4 * chs s + rs s) (4 * chs s + rs s))) v = some (y, v') ∧ KeepL 0 c c' ∧ KeepM 0 v v' ∧ (y = 0 ∨ (y = 1 ∧ ∃ a, a < 24 ∧ c'.2 11 s = nI (a / 3) ∧ c'.2 12 s = nI (a % 3) ∧ v'.2 11 s = nI a)) := by
  have hn := hA.2.1
  have hC2 := hA.1
  have h16 := pw_le hn
  have hcs := (h18 s hs).2
  have hset := setA_pow (a := fun s => 4 * chs s + rs s) hn (4 * chs s + rs s)
  have hbit : (setA nS (fun s => 4 * chs s + rs s) (4 * chs s + rs s)).testBit s = true := (setA_bit hn _ _).mpr ⟨hs, rfl⟩
  obtain ⟨y, v', m1, m2, m3⟩ := lay_ref hA hcs hset hM
  obtain ⟨x, c', l1, l2, l3⟩ := lay_class hA hcs hset 4 0 rfl 0 (by decide) c hC
  have l1' : f_Be_layFrom 5 0 (nI (chs s)) (nI (setA nS (fun s => 4 * chs s + rs s) (4 * chs s + rs s))) 0 c = some (x, c') := l1
  have hxy : x = y ∧ (x = 0 ∨ x = 1) ∧ (x = 0 ∨ (x = 1 ∧ ∃ a, a < 24 ∧ c'.2 11 s = nI (a / 3) ∧ c'.2 12 s = nI (a % 3) ∧ v'.2 11 s = nI a)) := by
    rcases l3 with ⟨rfl, at9, f1, f2⟩ | ⟨rfl, f1⟩
    · rcases m3 with ⟨rfl, at8, g1, g2⟩ | ⟨rfl, g1⟩
      · refine ⟨rfl, Or.inr rfl, Or.inr ⟨rfl, at9 s, ?_⟩⟩
        obtain ⟨q1, q2, q3⟩ := f2 s (Nat.zero_le _) (by omega) hbit
        refine ⟨q1, q2, q3, ?_⟩
        rw [(g2 s hs).1, first_uniq f1 g1 s (by omega) hbit]
      · exact absurd f1.1 (g1 at9)
    · rcases m3 with ⟨rfl, at8, g1, g2⟩ | ⟨rfl, g1⟩
      · exact absurd g1.1 (f1 at8)
      · exact ⟨rfl, Or.inl rfl, Or.inl rfl⟩
  obtain ⟨rfl, hx01, hx⟩ := hxy
  refine ⟨x, c', v', ?_, m1, l2, m2, hx⟩
  unfold f_Pl_layRunOf
  rw [g18 (by omega), Option.bind_some]
  dsimp only
  rw [g19 (by omega), Option.bind_some]
  dsimp only
  rw [all_eq hA hC, Option.bind_some]
  dsimp only
  rw [(h18 s hs).1, (h19 s hs).1, ab_eq hA (fun s hs => ⟨(h18 s hs).1, by have := (h18 s hs).2; omega⟩) h19 (by omega) (h19 s hs).2, Option.bind_some]
  dsimp only
  unfold f_Be_lay
  rw [l1', Option.bind_some]
  dsimp only
  rw [if_pos hx01, Option.bind_some]
  dsimp only
  rw [if_pos hx01]
theorem of_core (hA : AbOk nC nS nP g o d) {c v : St} (hC : RC nC nS nP g o d pl c) (hM : RM nC nS nP g o d pl v) (hP : PlanOk nC nS d c v) {s w : Nat} (hs : s < nS) (hw : w ≤ 6) : ∃ r c' v', f_Pl_tellShip (nI s) (nI w) c = some (r, c') ∧ f_Mo_of_35 (nI s) (nI w) 0 v = some (r, v') ∧ KeepL 0 c c' ∧ KeepM 0 (sI v 0 0) v' := by
  have hn := hA.2.1
  have hC2 := hA.1
  obtain ⟨b, chs, rs, p1, p2, p3⟩ := id hP
  have hM0 : RM nC nS nP g o d pl (sI v 0 0) := hM
  obtain ⟨t1, t2, t3, t4, t5, t6, t7, t8, t9⟩ := p1 s hs
  obtain ⟨y, c1, v1, l1, l2, l3, l4, l5⟩ := layrun hA hC hM0 (chs := chs) (rs := rs) (fun s hs => ⟨(p1 s hs).2.1, (p1 s hs).2.2.2.2.2.1⟩) (fun s hs => ⟨(p1 s hs).2.2.1, (p1 s hs).2.2.2.2.2.2.1⟩) hs
  have eso := shipsOf_eq hA hM0 (a := fun s => 4 * chs s + rs s) (fun s hs => ⟨(p1 s hs).2.2.2.2.1, by have := (p1 s hs).2.2.2.2.2.1; have := (p1 s hs).2.2.2.2.2.2.1; omega⟩) (q := 4 * chs s + rs s) (by omega)
  have k15 : v1.2 15 s = nI (4 * chs s + rs s) := by rw [l4.2.1 15 (by decide)]; exact t5
  have k16 : v1.2 16 s = nI (b s) := by rw [l4.2.1 16 (by decide)]; exact t4
  have hd4 : nI (4 * chs s + rs s) / 4 = nI (chs s) := by rw [z4, qdiv (by omega) (by decide) (by decide), show (4 * chs s + rs s) / 4 = chs s by omega]
  have hr4 : nI (4 * chs s + rs s) - nI (4 * chs s + rs s) / 4 * 4 = nI (rs s) := by rw [z4, qrem (by omega) (by decide) (by decide), show (4 * chs s + rs s) % 4 = rs s by omega]
  have R8c := hC.2.2.2.2.2.2 8 (by decide) s
  have R8v := (l4.RM hM0).2.2.2.2.2.2 8 (by decide) s
  have hov1 := ov_bs hA hC (b := b) (fun s hs => ⟨(p1 s hs).1, by have := (p1 s hs).2.2.2.2.2.2.2.1; omega⟩) hs
  have hov2 := ovM0 hA (l4.RM hM0) (b := b) (fun s hs => ⟨by rw [l4.2.1 16 (by decide)]; exact (p1 s hs).2.2.2.1, by have := (p1 s hs).2.2.2.2.2.2.2.1; omega⟩) hs
  have hsx : (sI v 0 0).2 15 s = nI (4 * chs s + rs s) := t5
  have ref : f_Mo_of_35 (nI s) (nI w) 0 v = (if nI w = 0 then some (nI (chs s), v1) else (if nI w = 1 then some (nI (rs s), v1) else (if nI w = 2 then some (nI (b s), v1) else (if nI w = 3 then (if y = 0 then some ((-1), v1) else some (v1.2 11 s / 3, v1)) else (if nI w = 4 then (if y = 0 then some ((-1), v1) else some (v1.2 11 s - v1.2 11 s / 3 * 3, v1)) else (if nI w = 5 then some (nI (b s) - nI (d 8 s), v1) else some (nI (ovF d b s 0 nS 0), v1))))))) := by
    unfold f_Mo_of_35
    rw [xl, if_pos (show (sI v 0 0).1 0 ≤ 0 from (by decide : (0 : Int32) ≤ 0))]
    simp only [xi (show s < 4 by omega) (by decide), xi (show s < 5 by omega) (by decide), qcl (show s < 2 ^ 31 by omega)]
    rw [hsx, eso, Option.bind_some]
    dsimp only
    rw [hd4, l2, Option.bind_some]
    dsimp only
    simp only [k15, k16, R8v, hd4, hov2, Option.bind_some]
    have hr4' : nI (4 * chs s + rs s) - nI (chs s) * 4 = nI (rs s) := by rw [← hr4, hd4]
    rw [hr4']
  rw [ref]
  unfold f_Pl_tellShip
  have hw7 : w = 0 ∨ w = 1 ∨ w = 2 ∨ w = 3 ∨ w = 4 ∨ w = 5 ∨ w = 6 := by omega
  have hk0 : KeepL 0 c c := KeepL.rf
  rcases hw7 with rfl | rfl | rfl | rfl | rfl | rfl | rfl
  · rw [if_pos (show nI 0 = 0 from rfl), if_pos (show nI 0 = 0 from rfl), g18 (by omega), Option.bind_some, t2]
    exact ⟨_, c, v1, rfl, rfl, hk0, l4⟩
  · rw [if_neg (show ¬ nI 1 = 0 by decide), if_neg (show ¬ nI 1 = 0 by decide), if_pos (show nI 1 = 1 from rfl), if_pos (show nI 1 = 1 from rfl), g19 (by omega), Option.bind_some, t3]
    exact ⟨_, c, v1, rfl, rfl, hk0, l4⟩
  · rw [if_neg (show ¬ nI 2 = 0 by decide), if_neg (show ¬ nI 2 = 0 by decide), if_neg (show ¬ nI 2 = 1 by decide), if_neg (show ¬ nI 2 = 1 by decide), if_pos (show nI 2 = 2 from rfl), if_pos (show nI 2 = 2 from rfl), g17 (by omega), Option.bind_some, t1]
    exact ⟨_, c, v1, rfl, rfl, hk0, l4⟩
  · rw [if_neg (show ¬ nI 3 = 0 by decide), if_neg (show ¬ nI 3 = 0 by decide), if_neg (show ¬ nI 3 = 1 by decide), if_neg (show ¬ nI 3 = 1 by decide), if_neg (show ¬ nI 3 = 2 by decide), if_neg (show ¬ nI 3 = 2 by decide), if_pos (show nI 3 = 3 from rfl), if_pos (show nI 3 = 3 from rfl), l1, Option.bind_some]
    dsimp only
    rcases l5 with rfl | ⟨rfl, a, a1, a2, a3, a4⟩
    · rw [if_pos rfl, if_pos rfl]
      exact ⟨-1, c1, v1, rfl, rfl, l3, l4⟩
    · rw [if_neg one_ne, if_neg one_ne, g11 (by omega), Option.bind_some, a2, a4, z3, qdiv (by omega) (by decide) (by decide)]
      exact ⟨_, c1, v1, rfl, rfl, l3, l4⟩
  · rw [if_neg (show ¬ nI 4 = 0 by decide), if_neg (show ¬ nI 4 = 0 by decide), if_neg (show ¬ nI 4 = 1 by decide), if_neg (show ¬ nI 4 = 1 by decide), if_neg (show ¬ nI 4 = 2 by decide), if_neg (show ¬ nI 4 = 2 by decide), if_neg (show ¬ nI 4 = 3 by decide), if_neg (show ¬ nI 4 = 3 by decide), if_pos (show nI 4 = 4 from rfl), if_pos (show nI 4 = 4 from rfl), l1, Option.bind_some]
    dsimp only
    rcases l5 with rfl | ⟨rfl, a, a1, a2, a3, a4⟩
    · rw [if_pos rfl, if_pos rfl]
      exact ⟨-1, c1, v1, rfl, rfl, l3, l4⟩
    · rw [if_neg one_ne, if_neg one_ne, g12 (by omega), Option.bind_some, a3, a4, z3, qrem (by omega) (by decide) (by decide)]
      exact ⟨_, c1, v1, rfl, rfl, l3, l4⟩
  · rw [if_neg (show ¬ nI 5 = 0 by decide), if_neg (show ¬ nI 5 = 0 by decide), if_neg (show ¬ nI 5 = 1 by decide), if_neg (show ¬ nI 5 = 1 by decide), if_neg (show ¬ nI 5 = 2 by decide), if_neg (show ¬ nI 5 = 2 by decide), if_neg (show ¬ nI 5 = 3 by decide), if_neg (show ¬ nI 5 = 3 by decide), if_neg (show ¬ nI 5 = 4 by decide), if_neg (show ¬ nI 5 = 4 by decide), if_pos (show nI 5 = 5 from rfl), if_pos (show nI 5 = 5 from rfl), g17 (by omega), Option.bind_some]
    dsimp only
    rw [(fl_get hA hC hs).2.2.2, Option.bind_some, t1]
    exact ⟨_, c, v1, rfl, rfl, hk0, l4⟩
  · rw [if_neg (show ¬ nI 6 = 0 by decide), if_neg (show ¬ nI 6 = 0 by decide), if_neg (show ¬ nI 6 = 1 by decide), if_neg (show ¬ nI 6 = 1 by decide), if_neg (show ¬ nI 6 = 2 by decide), if_neg (show ¬ nI 6 = 2 by decide), if_neg (show ¬ nI 6 = 3 by decide), if_neg (show ¬ nI 6 = 3 by decide), if_neg (show ¬ nI 6 = 4 by decide), if_neg (show ¬ nI 6 = 4 by decide), if_neg (show ¬ nI 6 = 5 by decide), if_neg (show ¬ nI 6 = 5 by decide), if_pos (show nI 6 = 6 from rfl), hov1, Option.bind_some]
    exact ⟨_, c, v1, rfl, rfl, hk0, l4⟩
theorem has_plan (hp : pl ≤ 1) {c : St} (hC : RC nC nS nP g o d pl c) : f_Pl_hasPlan c = some (nI pl, c) := by
  unfold f_Pl_hasPlan
  rw [hC.2.2.2.2.2.1, if_pos]
  rcases (show pl = 0 ∨ pl = 1 by omega) with rfl | rfl
  · exact Or.inl rfl
  · exact Or.inr rfl
end T1
