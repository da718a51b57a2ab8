/-! both sides: search, plan, fits, home -/
section S1
variable {nC nS nP g o pl : Nat} {d : Nat → Nat → Nat}
theorem plan_ok (hA : AbOk nC nS nP g o d) {a : Nat → Nat} (hV : Vld nC nS nP g o d a) {c v : St} (hT : TabB d nP nS a c) (hv : ∀ s, s < nS → v.2 15 s = nI (a s) ∧ v.2 16 s = nI (bA d nP nS a s)) : PlanOk nC nS d c v := by
  have hn := hA.2.1
  have hC2 := hA.1
  refine ⟨bA d nP nS a, fun s => a s / 4, fun s => a s % 4, fun s hs => ?_, fun s t hs ht h1 h2 => ?_, fun s hs k hk => ?_⟩
  · obtain ⟨t1, t2, t3⟩ := hT s hs
    obtain ⟨v1, v2⟩ := hv s hs
    have h0 := hV.1 s hs
    have hb := bA_bd hA hs h0
    refine ⟨t1, t2, t3, v2, ?_, by show a s / 4 < nC; omega, by show a s % 4 < 4; omega, by omega, hb.1⟩
    show v.2 15 s = nI (4 * (a s / 4) + a s % 4)
    rw [v1, show 4 * (a s / 4) + a s % 4 = a s by omega]
  · have h1' : a s / 4 = a t / 4 := h1
    have h2' : a s % 4 = a t % 4 := h2
    have e : a s = a t := by omega
    have hw := (hV.2.1 (a s) (hV.1 s hs) ((setA_ne hn _).mpr ⟨s, hs, rfl⟩)).1
    have w1 := hw s (by omega) ((setA_bit hn _ _).mpr ⟨hs, rfl⟩)
    have w2 := hw t (by omega) ((setA_bit hn _ _).mpr ⟨ht, e.symm⟩)
    exact ⟨by rw [w1, w2], bA_eq e⟩
  · obtain ⟨t, ht, he⟩ := hV.2.2.1 s hs k hk
    have hk' : k < a s % 4 := hk
    exact ⟨t, ht, by show a t / 4 = a s / 4; omega, by show a t % 4 = k; omega⟩
theorem PlanOk.keep {c v c' v' : St} (h : PlanOk nC nS d c v) (hc : ∀ k, k = 17 ∨ k = 18 ∨ k = 19 → c'.2 k = c.2 k) (hv : ∀ k, k = 15 ∨ k = 16 → v'.2 k = v.2 k) : PlanOk nC nS d c' v' := by
  unfold PlanOk at h ⊢
  rw [hc 17 (by omega), hc 18 (by omega), hc 19 (by omega), hv 15 (by omega), hv 16 (by omega)]
  exact h
/-- both searches end alike -/
theorem search_sim (hA : AbOk nC nS nP g o d) {pm : Nat} {c v : St} (hC : RC nC nS nP g o d pl c) (hK : Cache nC nS d c) (hM : RM nC nS nP g o d pm v) : ∃ pl' c' x v', f_Pl_search c = some (nI pl', c') ∧ f_Mo_search v = some (x, v') ∧ RC nC nS nP g o d pl' c' ∧ Cache nC nS d c' ∧ v'.1 = v.1 ∧ (∀ k, k ≤ 10 → v'.2 k = v.2 k) ∧ (∀ k, 20 ≤ k → c'.2 k = c.2 k) ∧ ((pl' = 0 ∧ x = -1) ∨ (pl' = 1 ∧ ∃ w, w ≤ 80000 ∧ x = nI w ∧ c'.1 5 = nI w ∧ PlanOk nC nS d c' v')) := by
  obtain ⟨pl', c', h1, h2, h3, h4, h5⟩ := searchC_eq hA hC hK
  obtain ⟨x, v', k1, k2, k3, k4⟩ := searchM_eq hA hM
  refine ⟨pl', c', x, v', h1, k1, h2, h3, k2, k3, h4, ?_⟩
  rcases h5 with ⟨p1, p2⟩ | ⟨p1, a, p2, p3, p4, p5⟩
  · rcases k4 with ⟨q1, -⟩ | ⟨a, q1, -⟩
    · exact Or.inl ⟨p1, q1⟩
    · exact absurd q1 (p2 a)
  · rcases k4 with ⟨-, q1⟩ | ⟨b, q1, q2, q3, q4⟩
    · exact absurd p2 (q1 a)
    · obtain ⟨e1, e2⟩ := kA_inj hA p2 q1 (Nat.le_antisymm (p5 b q1) (q4 a p2))
      refine Or.inr ⟨p1, wA d nP nS a, wA_bd hA p2.1, by rw [q2, e1], p4, plan_ok hA p2 p3 (fun s hs => ?_)⟩
      rw [(e2 s hs).1, (e2 s hs).2]
      exact q3 s hs
theorem plan_sim {c v : St} (h : Rel c v) : Sim0 (f_LR_plan c) (f_Mo_plan v) := by
  obtain ⟨nC, nS, nP, g, o, d, pl, hA, hp, hC, hM, hK, hPl⟩ := id h
  have hM0 : RM nC nS nP g o d pl (sI v 0 0) := hM
  obtain ⟨pl', c', x, v', s1, s2, s3, s4, s5, s6, s7, s8⟩ := search_sim hA hC hK hM0
  unfold f_LR_plan f_Mo_plan
  rw [s1, Option.bind_some, xl, s2, Option.bind_some]
  dsimp only
  have hM1 : RM nC nS nP g o d pl v' := RM_of hM0 s5 s6
  have hM2 : ∀ q, RM nC nS nP g o d q (sI v' 6 (nI q)) := fun q => by
    obtain ⟨c0, c1, c2, c3, c8, c7, cR⟩ := hM1
    exact ⟨c0, c1, c2, c3, c8, rfl, cR⟩
  rcases s8 with ⟨rfl, rfl⟩ | ⟨rfl, w, w1, rfl, w2, w3⟩
  · rw [if_pos (show nI 0 = 0 from rfl), if_pos (show (-1 : Int32) < 0 by decide)]
    unfold f_Mo_plan_20
    rw [if_pos (Or.inl rfl), xl]
    exact ⟨-1, c', sI v' 6 (nI 0), rfl, rfl, nC, nS, nP, g, o, d, 0, hA, by decide, s3, hM2 0, s4, fun h => by cases h⟩
  · rw [if_neg (show ¬ nI 1 = 0 from one_ne), if_neg (nI_pos (by omega))]
    unfold f_Mo_plan_20 f_Pl_waiting f_Tt_waiting_bs
    rw [if_pos (Or.inr rfl), xl, Option.bind_some, Option.bind_some]
    dsimp only
    rw [w2]
    exact ⟨nI w, c', sI v' 6 (nI 1), rfl, rfl, nC, nS, nP, g, o, d, 1, hA, by decide, s3, hM2 1, s4, fun _ => w3.keep (fun _ _ => rfl) (fun _ _ => rfl)⟩
theorem fits_sim {c v : St} (h : Rel c v) (x1 x2 : Int32) : ∃ (k : Nat) (r : Int32) (c' : St) (r' : Int32) (v' : St), f_LR_fits x1 x2 c = some ((k, r), c') ∧ f_Mo_fits x1 x2 v = some (r', v') ∧ ((k = 0 ∧ v'.1 0 = 0 ∧ r = r' ∧ (r = 0 ∨ r = 1)) ∨ (k = 1 ∧ v'.1 0 = 1)) ∧ Rel c' v' := by
  obtain ⟨nC, nS, nP, g, o, d, pl, hA, hp, hC, hM, hK, hPl⟩ := id h
  have hn := hA.2.1
  have hC2 := hA.1
  have h16 := pw_le hn
  have hpos : 1 ≤ 2 ^ nS := Nat.one_le_two_pow
  have hbad : ∃ v', f_Mo_fits_29 x1 x2 v = some (0, v') ∧ v'.1 0 = 1 ∧ Rel c v' := by
    refine ⟨sI v 0 1, ?_, rfl, nC, nS, nP, g, o, d, pl, hA, hp, hC, hM, hK, fun h => (hPl h).keep (fun _ _ => rfl) (fun _ _ => rfl)⟩
    unfold f_Mo_fits_29 f_Mo_fits_30
    rw [xl, if_neg (show ¬ (sI v 0 1).1 0 = 0 from one_ne)]
  unfold f_LR_fits f_Mo_fits
  rw [ch_has_eq hC.1 hC2, mo_isChamber_eq hM.1, Option.bind_some, Option.bind_some]
  dsimp only
  by_cases hx : 0 ≤ x1 ∧ x1 < nI nC
  · rw [if_pos hx, if_neg one_ne, if_neg one_ne, all_eq hA hC, Option.bind_some, in_eq, Option.bind_some]
    dsimp only
    rw [hM.2.1, q_bit (by omega)]
    have e1 : nI (2 ^ nS) - 1 = nI (2 ^ nS - 1) := by rw [z1, pk_sub hpos]
    rw [e1]
    by_cases hx2 : 0 ≤ x2 ∧ x2 ≤ nI (2 ^ nS - 1)
    · rw [if_pos ((sub_all hn x2).mpr hx2), if_pos hx2, if_neg one_ne]
      obtain ⟨ch, hch, rfl⟩ := ix_nat (by omega) hx
      obtain ⟨set, -, hset, rfl⟩ := in_nat (lo := 0) (by omega) (by omega) hx2
      have hset2 : set < 2 ^ nS := by omega
      obtain ⟨r, c', l1, l2, l3, l4⟩ := canLay_eq hA hch hset2 hC hK
      have hM0 : RM nC nS nP g o d pl (sI v 0 0) := hM
      obtain ⟨y, v', m1, m2, m3⟩ := lay_ref hA hch hset2 hM0
      have hans : Ans (pFits d g ch set) y := by
        rcases m3 with ⟨rfl, at9, f1, -⟩ | ⟨rfl, f1⟩
        · exact Or.inl ⟨rfl, (fits_iff hA hch hset2).mpr ⟨at9, f1.1⟩⟩
        · exact Or.inr ⟨rfl, fun h => by
            obtain ⟨at9, h9⟩ := (fits_iff hA hch hset2).mp h
            exact f1 at9 h9⟩
      have he := l2.uniq hans
      subst he
      have hr01 : r = 0 ∨ r = 1 := by
        rcases l2 with ⟨h, -⟩ | ⟨h, -⟩
        · exact Or.inr h
        · exact Or.inl h
      have hrel : Rel c' v' := ⟨nC, nS, nP, g, o, d, pl, hA, hp, l3.RC hC, m2.RM hM0, l4, fun h => (hPl h).keep (fun k hk => l3.2 k (by omega) (by omega) (by omega)) (fun k hk => by rw [m2.2.1 k (by omega)]; rfl)⟩
      refine ⟨0, r, c', r, v', ?_, ?_, Or.inl ⟨rfl, by rw [m2.1]; rfl, rfl, hr01⟩, hrel⟩
      · rw [l1, Option.bind_some]
        dsimp only
        rw [if_pos hr01]
      · unfold f_Mo_fits_30
        rw [xl, if_pos (show (sI v 0 0).1 0 = 0 from rfl), m1, Option.bind_some]
        dsimp only
        rcases hr01 with h | h
        · rw [h, if_pos rfl]
        · rw [h, if_neg one_ne]
    · rw [if_neg (fun h9 => hx2 ((sub_all hn x2).mp h9)), if_neg hx2, if_pos rfl]
      obtain ⟨v', b1, b2, b3⟩ := hbad
      exact ⟨1, 0, c, 0, v', rfl, b1, Or.inr ⟨rfl, b2⟩, b3⟩
  · rw [if_neg hx, if_pos rfl, if_pos rfl]
    obtain ⟨v', b1, b2, b3⟩ := hbad
    exact ⟨1, 0, c, 0, v', rfl, b1, Or.inr ⟨rfl, b2⟩, b3⟩
theorem home_from (hA : AbOk nC nS nP g o d) {s : Nat} (hs : s < nS) : ∀ m ch, ch + m = nC → ∀ (c v : St), RC nC nS nP g o d pl c → Cache nC nS d c → RM nC nS nP g o d pl v → ∀ n, ∃ r c' v', f_LR_home_23 (n + m + 1) (nI s) (nI ch) c = some ((0, r), c') ∧ f_Mo_home_28 (n + m + 1) (nI s) (nI ch) v = some (r, v') ∧ KeepB c c' ∧ Cache nC nS d c' ∧ KeepM 0 v v' := by
  have hn := hA.2.1
  have hC2 := hA.1
  have hset : 2 ^ s < 2 ^ nS := Nat.pow_lt_pow_right (by decide) hs
  intro m
  induction m with
  | zero =>
    intro ch hch c v hC hK hM n
    have hch : ch = nC := by omega
    subst hch
    refine ⟨-1, c, v, ?_, ?_, KeepB.rf, hK, KeepM.rf⟩
    · show b_LR_home_23 (f_LR_home_23 n) _ (nI ch) c = _
      unfold b_LR_home_23 f_Ch_size
      rw [Option.bind_some]
      dsimp only
      rw [hC.1, if_pos (nI_le (Nat.le_refl _) (by omega))]
    · show b_Mo_home_28 (f_Mo_home_28 n) _ (nI ch) v = _
      unfold b_Mo_home_28
      rw [hM.1, if_pos (nI_le (Nat.le_refl _) (by omega))]
  | succ m ih =>
    intro ch hch c v hC hK hM n
    have hcn : ch < nC := by omega
    have e1 : f_LR_home_23 (n + (m + 1) + 1) (nI s) (nI ch) c = b_LR_home_23 (f_LR_home_23 (n + m + 1)) (nI s) (nI ch) c := rfl
    have e2 : f_Mo_home_28 (n + (m + 1) + 1) (nI s) (nI ch) v = b_Mo_home_28 (f_Mo_home_28 (n + m + 1)) (nI s) (nI ch) v := rfl
    obtain ⟨r, c', l1, l2, l3, l4⟩ := canLay_eq hA hcn hset hC hK
    obtain ⟨y, v', m1, m2, m3⟩ := lay_ref hA hcn hset hM
    have hans : Ans (pFits d g ch (2 ^ s)) y := by
      rcases m3 with ⟨rfl, at9, f1, -⟩ | ⟨rfl, f1⟩
      · exact Or.inl ⟨rfl, (fits_iff hA hcn hset).mpr ⟨at9, f1.1⟩⟩
      · exact Or.inr ⟨rfl, fun h => by
          obtain ⟨at9, h9⟩ := (fits_iff hA hcn hset).mp h
          exact f1 at9 h9⟩
    have he := l2.uniq hans
    subst he
    rw [e1, e2]
    unfold b_LR_home_23 b_Mo_home_28 f_Ch_size
    rw [Option.bind_some]
    dsimp only
    rw [hC.1, hM.1, if_neg (nI_ge hcn (by omega)), if_neg (nI_ge hcn (by omega)), q_bit (by omega), l1, m1, Option.bind_some, Option.bind_some]
    dsimp only
    rcases l2 with ⟨rfl, -⟩ | ⟨rfl, -⟩
    · rw [if_neg one_ne, if_neg one_ne]
      exact ⟨nI ch, c', v', rfl, rfl, l3, l4, m2⟩
    · rw [if_pos rfl, if_pos rfl, nI_1]
      obtain ⟨r, c2, v2, q1, q2, q3, q4, q5⟩ := ih (ch + 1) (by omega) c' v' (l3.RC hC) l4 (m2.RM hM) n
      exact ⟨r, c2, v2, q1, q2, l3.tr q3, q4, m2.tr q5 (Nat.le_refl _)⟩
theorem home_sim {c v : St} (h : Rel c v) (x1 : Int32) : ∃ (k : Nat) (r : Int32) (c' : St) (r' : Int32) (v' : St), f_LR_home x1 c = some ((k, r), c') ∧ f_Mo_home x1 v = some (r', v') ∧ ((k = 0 ∧ v'.1 0 = 0 ∧ r = r') ∨ (k = 3 ∧ v'.1 0 = 1)) ∧ Rel c' v' := by
  obtain ⟨nC, nS, nP, g, o, d, pl, hA, hp, hC, hM, hK, hPl⟩ := id h
  have hn := hA.2.1
  have hC2 := hA.1
  unfold f_LR_home f_Mo_home
  rw [fl_has_eq hC.2.2.1 hn, mo_isShip_eq hM.2.1, Option.bind_some, Option.bind_some]
  dsimp only
  by_cases hx : 0 ≤ x1 ∧ x1 < nI nS
  · rw [if_pos hx, if_neg one_ne, if_neg one_ne]
    obtain ⟨s, hs, rfl⟩ := ix_nat (by omega) hx
    have hM0 : RM nC nS nP g o d pl (sI v 0 0) := hM
    obtain ⟨r, c', v', q1, q2, q3, q4, q5⟩ := home_from hA hs nC 0 (by omega) c (sI v 0 0) hC hK hM0 (39 - nC)
    rw [show 39 - nC + nC + 1 = 40 by omega] at q1 q2
    refine ⟨0, r, c', r, v', q1, ?_, Or.inl ⟨rfl, by rw [q5.1]; rfl, rfl⟩, nC, nS, nP, g, o, d, pl, hA, hp, q3.RC hC, q5.RM hM0, q4, fun h => (hPl h).keep (fun k hk => q3.2 k (by omega) (by omega) (by omega)) (fun k hk => by rw [q5.2.1 k (by omega)]; rfl)⟩
    unfold f_Mo_home_14
    rw [xl, if_pos (show (sI v 0 0).1 0 ≤ 0 from (by decide : (0 : Int32) ≤ 0))]
    exact q2
  · rw [if_neg hx, if_pos rfl, if_pos rfl]
    refine ⟨3, 0, c, 0, sI v 0 1, rfl, ?_, Or.inr ⟨rfl, rfl⟩, nC, nS, nP, g, o, d, pl, hA, hp, hC, hM, hK, fun h => (hPl h).keep (fun _ _ => rfl) (fun _ _ => rfl)⟩
    unfold f_Mo_home_14
    rw [xl, if_neg (show ¬ (sI v 0 1).1 0 ≤ 0 from (by decide : ¬ (1 : Int32) ≤ 0))]
end S1
