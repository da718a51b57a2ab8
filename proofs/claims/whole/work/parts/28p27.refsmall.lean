/-! the reference's small functions of the search -/
def suF (a : Nat → Nat) (q : Nat) : Nat → Nat → Nat → Nat
  | _, 0, n => n
  | s, r + 1, n => suF a q (s + 1) r (n + if a s = q then 2 ^ s else 0)
theorem suF_eq {nS : Nat} (hn : nS ≤ 4) (a : Nat → Nat) (q : Nat) : suF a q 0 nS 0 = setA nS a q := by
  have h : nS = 0 ∨ nS = 1 ∨ nS = 2 ∨ nS = 3 ∨ nS = 4 := by omega
  unfold setA mkS
  rcases h with rfl | rfl | rfl | rfl | rfl <;> by_cases h0 : a 0 = q <;> by_cases h1 : a 1 = q <;> by_cases h2 : a 2 = q <;> by_cases h3 : a 3 = q <;> simp [suF, h0, h1, h2, h3]
theorem RM_of {nC nS nP g o pl : Nat} {d : Nat → Nat → Nat} {v v' : St} (h : RM nC nS nP g o d pl v) (h1 : v'.1 = v.1) (h3 : ∀ k, k ≤ 10 → v'.2 k = v.2 k) : RM nC nS nP g o d pl v' := by
  obtain ⟨c0, c1, c2, c3, c8, c7, cR⟩ := h
  refine ⟨by rw [h1]; exact c0, by rw [h1]; exact c1, by rw [h1]; exact c2, by rw [h1]; exact c3, by rw [h1]; exact c8, by rw [h1]; exact c7, fun k hk i => ?_⟩
  rw [h3 k hk]
  exact cR k hk i
section MS
variable {nC nS nP g o pl : Nat} {d : Nat → Nat → Nat} {v : St}
theorem setOf_from (hA : AbOk nC nS nP g o d) (hM : RM nC nS nP g o d pl v) {a : Nat → Nat} (ha : ∀ s, s < nS → v.2 13 s = nI (a s) ∧ a s < 2 ^ 31) {q : Nat} (hq : q < 2 ^ 31) : ∀ r s, s + r = nS → ∀ t n, f_Mo_setOf_4 (n + r + 1) (nI q) (nI t) (nI s) v = some (nI (suF a q s r t), v) := by
  have hn := hA.2.1
  intro r
  induction r with
  | zero =>
    intro s hs t n
    have hs : s = nS := by omega
    subst hs
    show b_Mo_setOf_4 (f_Mo_setOf_4 n) _ _ (nI s) v = _
    unfold b_Mo_setOf_4
    rw [hM.2.1, if_pos (nI_le (Nat.le_refl _) (by omega))]
    rfl
  | succ r ih =>
    intro s hs t n
    have e : f_Mo_setOf_4 (n + (r + 1) + 1) (nI q) (nI t) (nI s) v = b_Mo_setOf_4 (f_Mo_setOf_4 (n + r + 1)) (nI q) (nI t) (nI s) v := rfl
    have eS : suF a q s (r + 1) t = suF a q (s + 1) r (t + if a s = q then 2 ^ s else 0) := rfl
    obtain ⟨a1, a2⟩ := ha s (by omega)
    rw [e, eS]
    unfold b_Mo_setOf_4 f_Mo_setOf_30
    rw [hM.2.1, if_neg (nI_ge (by omega) (by omega)), xi (show s < 4 by omega) (by decide), qcl (by omega), a1, xl, xl, nI_1]
    by_cases h : a s = q
    · rw [if_pos (by rw [h]), if_pos h, q_bit (by omega), nI_add]
      exact ih (s + 1) (by omega) _ n
    · rw [if_neg (fun h9 => h ((nI_eq a2 hq).mp h9)), if_neg h, z0, nI_add]
      exact ih (s + 1) (by omega) _ n
theorem setOf_eq (hA : AbOk nC nS nP g o d) (hM : RM nC nS nP g o d pl v) {a : Nat → Nat} (ha : ∀ s, s < nS → v.2 13 s = nI (a s) ∧ a s < 2 ^ 31) {q : Nat} (hq : q < 2 ^ 31) : f_Mo_setOf (nI q) v = some (nI (setA nS a q), v) := by
  have hn := hA.2.1
  have := setOf_from hA hM ha hq nS 0 (by omega) 0 (39 - nS)
  rw [show 39 - nS + nS + 1 = 40 by omega, suF_eq hn] at this
  exact this
theorem shipsOf_from (hA : AbOk nC nS nP g o d) (hM : RM nC nS nP g o d pl v) {a : Nat → Nat} (ha : ∀ s, s < nS → v.2 15 s = nI (a s) ∧ a s < 2 ^ 31) {q : Nat} (hq : q < 2 ^ 31) : ∀ r s, s + r = nS → ∀ t n, f_Mo_shipsOf_4 (n + r + 1) (nI q) (nI t) (nI s) v = some (nI (suF a q s r t), v) := by
  have hn := hA.2.1
  intro r
  induction r with
  | zero =>
    intro s hs t n
    have hs : s = nS := by omega
    subst hs
    show b_Mo_shipsOf_4 (f_Mo_shipsOf_4 n) _ _ (nI s) v = _
    unfold b_Mo_shipsOf_4
    rw [hM.2.1, if_pos (nI_le (Nat.le_refl _) (by omega))]
    rfl
  | succ r ih =>
    intro s hs t n
    have e : f_Mo_shipsOf_4 (n + (r + 1) + 1) (nI q) (nI t) (nI s) v = b_Mo_shipsOf_4 (f_Mo_shipsOf_4 (n + r + 1)) (nI q) (nI t) (nI s) v := rfl
    have eS : suF a q s (r + 1) t = suF a q (s + 1) r (t + if a s = q then 2 ^ s else 0) := rfl
    obtain ⟨a1, a2⟩ := ha s (by omega)
    rw [e, eS]
    unfold b_Mo_shipsOf_4 f_Mo_shipsOf_30
    rw [hM.2.1, if_neg (nI_ge (by omega) (by omega)), xi (show s < 4 by omega) (by decide), qcl (by omega), a1, xl, xl, nI_1]
    by_cases h : a s = q
    · rw [if_pos (by rw [h]), if_pos h, q_bit (by omega), nI_add]
      exact ih (s + 1) (by omega) _ n
    · rw [if_neg (fun h9 => h ((nI_eq a2 hq).mp h9)), if_neg h, z0, nI_add]
      exact ih (s + 1) (by omega) _ n
theorem shipsOf_eq (hA : AbOk nC nS nP g o d) (hM : RM nC nS nP g o d pl v) {a : Nat → Nat} (ha : ∀ s, s < nS → v.2 15 s = nI (a s) ∧ a s < 2 ^ 31) {q : Nat} (hq : q < 2 ^ 31) : f_Mo_shipsOf (nI q) v = some (nI (setA nS a q), v) := by
  have hn := hA.2.1
  have := shipsOf_from hA hM ha hq nS 0 (by omega) 0 (39 - nS)
  rw [show 39 - nS + nS + 1 = 40 by omega, suF_eq hn] at this
  exact this
theorem first_from {set : Nat} (hset : set < 16) (h0 : set ≠ 0) : ∀ r s, s + r = firstN set → ∀ n, f_Mo_first_2 (n + r + 1) (nI set) (nI s) v = some (nI (firstN set), v) := by
  obtain ⟨f1, f2⟩ := firstN_bit hset h0
  have hf := firstN_lt set
  intro r
  induction r with
  | zero =>
    intro s hs n
    have hs : s = firstN set := by omega
    have q := qb0 (set := set) (s := s) (by omega) (by omega)
    rw [← z1, ← z31, ← z0] at q
    show b_Mo_first_2 (f_Mo_first_2 n) _ (nI s) v = _
    unfold b_Mo_first_2
    rw [if_neg (fun h => by have := q.mp h; rw [hs, f1] at this; cases this), hs]
  | succ r ih =>
    intro s hs n
    have q := qb0 (set := set) (s := s) (by omega) (by omega)
    rw [← z1, ← z31, ← z0] at q
    have e : f_Mo_first_2 (n + (r + 1) + 1) (nI set) (nI s) v = b_Mo_first_2 (f_Mo_first_2 (n + r + 1)) (nI set) (nI s) v := rfl
    rw [e]
    unfold b_Mo_first_2
    rw [if_pos (q.mpr (f2 s (by omega))), nI_1]
    exact ih (s + 1) (by omega) n
theorem first_eq {set : Nat} (hset : set < 16) (h0 : set ≠ 0) : f_Mo_first (nI set) v = some (nI (firstN set), v) := by
  have hf := firstN_lt set
  have := first_from (v := v) hset h0 (firstN set) 0 (by omega) (39 - firstN set)
  rw [show 39 - firstN set + firstN set + 1 = 40 by omega] at this
  exact this
theorem ow_bad (hA : AbOk nC nS nP g o d) (hM : RM nC nS nP g o d pl v) {x : Int32} : ∀ r s, s + r = nS → ∀ n, f_Mo_isOneWay_4 (n + r + 1) x 0 (nI s) v = some (0, v) := by
  have hn := hA.2.1
  intro r
  induction r with
  | zero =>
    intro s hs n
    have hs : s = nS := by omega
    subst hs
    show b_Mo_isOneWay_4 (f_Mo_isOneWay_4 n) _ _ (nI s) v = _
    unfold b_Mo_isOneWay_4
    rw [hM.2.1, if_pos (nI_le (Nat.le_refl _) (by omega)), if_pos (Or.inl rfl)]
  | succ r ih =>
    intro s hs n
    have e : f_Mo_isOneWay_4 (n + (r + 1) + 1) x 0 (nI s) v = b_Mo_isOneWay_4 (f_Mo_isOneWay_4 (n + r + 1)) x 0 (nI s) v := rfl
    rw [e]
    unfold b_Mo_isOneWay_4
    rw [hM.2.1, if_neg (nI_ge (by omega) (by omega)), if_pos rfl]
    unfold f_Mo_isOneWay_46 f_Mo_isOneWay_47
    rw [nI_1]
    exact ih (s + 1) (by omega) n
theorem ow_from (hA : AbOk nC nS nP g o d) (hM : RM nC nS nP g o d pl v) {set : Nat} (hset : set < 2 ^ nS) (h0 : set ≠ 0) : ∀ r s, s + r = nS → (∀ t, t < s → set.testBit t = true → d 9 t = dirN d set) → ∀ n, ∃ x, f_Mo_isOneWay_4 (n + r + 1) (nI set) 1 (nI s) v = some (x, v) ∧ Ans (oneW d set) x := by
  have hn := hA.2.1
  have h16 := pw_le hn
  have hf := firstN_lt set
  have hdn := dirN_le hA hset h0
  intro r
  induction r with
  | zero =>
    intro s hs hl n
    have hs : s = nS := by omega
    subst hs
    refine ⟨1, ?_, Or.inl ⟨rfl, fun t _ hb => hl t (bit_lt hset hb) hb⟩⟩
    show b_Mo_isOneWay_4 (f_Mo_isOneWay_4 n) _ _ (nI s) v = _
    unfold b_Mo_isOneWay_4
    rw [hM.2.1, if_pos (nI_le (Nat.le_refl _) (by omega)), if_pos (Or.inr rfl)]
  | succ r ih =>
    intro s hs hl n
    have q := qb0 (set := set) (s := s) (by omega) (by omega)
    rw [← z1, ← z31, ← z0] at q
    have R := hM.2.2.2.2.2.2 9 (by decide)
    have e : f_Mo_isOneWay_4 (n + (r + 1) + 1) (nI set) 1 (nI s) v = b_Mo_isOneWay_4 (f_Mo_isOneWay_4 (n + r + 1)) (nI set) 1 (nI s) v := rfl
    rw [e]
    unfold b_Mo_isOneWay_4
    rw [hM.2.1, if_neg (nI_ge (by omega) (by omega)), if_neg one_ne]
    unfold f_Mo_isOneWay_46 f_Mo_isOneWay_42 f_Mo_isOneWay_47
    rw [nI_1]
    cases hb : set.testBit s
    · rw [if_pos (q.mpr hb)]
      exact ih (s + 1) (by omega) (fun t h1 h2 => by
        rcases Nat.eq_or_lt_of_le (Nat.le_of_lt_succ h1) with rfl | h3
        · rw [hb] at h2; cases h2
        · exact hl t h3 h2) n
    · rw [if_neg (fun h => by have := q.mp h; rw [hb] at this; cases this), xi (show s < 4 by omega) (by decide), first_eq (by omega) h0, Option.bind_some]
      dsimp only
      have d1 := dir_le hA hset s hb
      rw [xi hf (by decide), qcl (by omega), qcl (by omega), R s, R (firstN set)]
      by_cases hq : d 9 s = dirN d set
      · rw [if_pos (show nI (d 9 s) = nI (d 9 (firstN set)) by rw [hq]; rfl)]
        exact ih (s + 1) (by omega) (fun t h1 h2 => by
          rcases Nat.eq_or_lt_of_le (Nat.le_of_lt_succ h1) with rfl | h3
          · exact hq
          · exact hl t h3 h2) n
      · rw [if_neg (show ¬ nI (d 9 s) = nI (d 9 (firstN set)) from fun h => hq ((nI_eq (b := dirN d set) (by omega) (by omega)).mp h))]
        exact ⟨0, ow_bad hA hM r (s + 1) (by omega) n, Or.inr ⟨rfl, fun h => hq (h s (by omega) hb)⟩⟩
theorem ow_eq (hA : AbOk nC nS nP g o d) (hM : RM nC nS nP g o d pl v) {set : Nat} (hset : set < 2 ^ nS) (h0 : set ≠ 0) : ∃ x, f_Mo_isOneWay (nI set) v = some (x, v) ∧ Ans (oneW d set) x := by
  have hn := hA.2.1
  obtain ⟨x, h1, h2⟩ := ow_from hA hM hset h0 nS 0 (by omega) (fun t h => by omega) (39 - nS)
  rw [show 39 - nS + nS + 1 = 40 by omega] at h1
  exact ⟨x, h1, h2⟩
theorem passM (hA : AbOk nC nS nP g o d) (hM : RM nC nS nP g o d pl v) {ch : Nat} (hch : ch < nC) (K5 : Int32 → Int32 → Int32 → St → Option (Int32 × St)) (x4 : Int32) : ∀ r k, k + r = nP → ∀ w, w ≤ 20000 → ∀ n, f_Mo_open_15 K5 (n + r + 1) (nI ch) (nI w) x4 (nI k) v = K5 (nI ch) (nI (spPass d ch k r w)) (x4 + 1) v := by
  have hP := hA.2.2.1
  have hC2 := hA.1
  have dC := hA.2.2.2.2.2.1 ch hch
  intro r
  induction r with
  | zero =>
    intro k hk w hw n
    have hk : k = nP := by omega
    subst hk
    show b_Mo_open_15 K5 (f_Mo_open_15 K5 n) _ _ _ _ v = _
    unfold b_Mo_open_15
    rw [hM.2.2.1, if_pos (nI_le (Nat.le_refl _) (by omega))]
    rfl
  | succ r ih =>
    intro k hk w hw n
    have dP := hA.2.2.2.2.2.2.1 k (by omega)
    have R3 := hM.2.2.2.2.2.2 3 (by decide) k
    have R4 := hM.2.2.2.2.2.2 4 (by decide) k
    have R5 := hM.2.2.2.2.2.2 5 (by decide) k
    have R2 := hM.2.2.2.2.2.2 2 (by decide) ch
    have e : f_Mo_open_15 K5 (n + (r + 1) + 1) (nI ch) (nI w) x4 (nI k) v = b_Mo_open_15 K5 (f_Mo_open_15 K5 (n + r + 1)) (nI ch) (nI w) x4 (nI k) v := rfl
    have eP : spPass d ch k (r + 1) w = spPass d ch (k + 1) r (spStep d ch k w) := rfl
    rw [e, eP]
    unfold b_Mo_open_15 f_Mo_open_74 f_Mo_open_75 spStep
    rw [hM.2.2.1, if_neg (nI_ge (by omega) (by omega))]
    simp only [xi (show k < 8 by omega) (by decide), xi (show ch < 2 by omega) (by decide), qcl (show k < 2 ^ 31 by omega), qcl (show ch < 2 ^ 31 by omega), R2, R3, R4, R5, nI_1, nI_add]
    by_cases h1 : d 3 k = ch
    · rw [if_pos (by rw [h1])]
      by_cases h2 : w < d 5 k
      · rw [if_neg (nI_ge h2 (by omega))]
        by_cases h3 : d 4 k < w + d 2 ch
        · rw [if_neg (nI_ge h3 (by omega)), if_pos ⟨h1, h2, h3⟩]
          exact ih (k + 1) (by omega) _ (by omega) n
        · rw [if_pos (nI_le (by omega) (by omega)), if_neg (fun h => h3 h.2.2)]
          exact ih (k + 1) (by omega) _ hw n
      · rw [if_pos (nI_le (by omega) (by omega)), if_neg (fun h => h2 h.2.1)]
        exact ih (k + 1) (by omega) _ hw n
    · rw [if_neg (fun h => h1 ((nI_eq (by omega) (by omega)).mp h)), if_neg (fun h => h1 h.1)]
      exact ih (k + 1) (by omega) _ hw n
theorem openM_from (hA : AbOk nC nS nP g o d) (hM : RM nC nS nP g o d pl v) {ch : Nat} (hch : ch < nC) : ∀ r k, k + r = 9 → ∀ w, w ≤ 20000 → ∀ n, f_Mo_open_5 (n + r + 1) (nI ch) (nI w) (nI k) v = some (nI (spIt d ch nP r w), v) := by
  have hP := hA.2.2.1
  intro r
  induction r with
  | zero =>
    intro k hk w hw n
    have hk : k = 9 := by omega
    subst hk
    show b_Mo_open_5 (f_Mo_open_5 n) _ _ _ v = _
    unfold b_Mo_open_5
    rw [if_pos (show (9 : Int32) ≤ nI 9 by decide)]
    rfl
  | succ r ih =>
    intro k hk w hw n
    have hB : spPass d ch 0 nP w ≤ 20000 := spPass_le nP 0 w 20000 (fun j _ hj => by have := hA.2.2.2.2.2.2.1 j (by omega); omega) hw
    have e : f_Mo_open_5 (n + (r + 1) + 1) (nI ch) (nI w) (nI k) v = b_Mo_open_5 (f_Mo_open_5 (n + r + 1)) (nI ch) (nI w) (nI k) v := rfl
    rw [e]
    unfold b_Mo_open_5
    rw [if_neg (show ¬ (9 : Int32) ≤ nI k from nI_ge (b := 9) (by omega) (by decide))]
    have := passM hA hM hch (f_Mo_open_5 (n + r + 1)) (nI k) nP 0 (by omega) w hw (39 - nP)
    rw [show 39 - nP + nP + 1 = 40 by omega, nI_1] at this
    exact this.trans (ih (k + 1) (by omega) _ hB n)
theorem openM_eq (hA : AbOk nC nS nP g o d) (hM : RM nC nS nP g o d pl v) {ch : Nat} (hch : ch < nC) {w : Nat} (hw : w ≤ 20000) : f_Mo_open (nI ch) (nI w) v = some (nI (opn d ch nP w), v) := by
  have h := openM_from hA hM hch 9 0 rfl w hw 30
  rw [spIt_out, spIt_fix 8 w (Nat.le_trans (spCnt_le w nP) hA.2.2.1)] at h
  exact h
theorem ovM1_from (hA : AbOk nC nS nP g o d) (hM : RM nC nS nP g o d pl v) {b : Nat → Nat} (hb : ∀ s, s < nS → v.2 14 s = nI (b s) ∧ b s < 2 ^ 31) {s : Nat} (hs : s < nS) : ∀ r t, t + r = nS → ∀ n f, f_Mo_overtaken_5 (f + r + 1) (nI s) 1 (nI n) (nI t) v = some (nI (ovF d b s t r n), v) := by
  have hn := hA.2.1
  intro r
  induction r with
  | zero =>
    intro t ht n f
    have ht : t = nS := by omega
    subst ht
    show b_Mo_overtaken_5 (f_Mo_overtaken_5 f) (nI s) _ (nI n) (nI t) v = _
    unfold b_Mo_overtaken_5
    rw [hM.2.1, if_pos (nI_le (Nat.le_refl _) (by omega))]
    rfl
  | succ r ih =>
    intro t ht n f
    have htn : t < nS := by omega
    have dt := hA.2.2.2.2.2.2.2 t htn
    have ds := hA.2.2.2.2.2.2.2 s hs
    have R9t := hM.2.2.2.2.2.2 9 (by decide) t
    have R9s := hM.2.2.2.2.2.2 9 (by decide) s
    have R8t := hM.2.2.2.2.2.2 8 (by decide) t
    have R8s := hM.2.2.2.2.2.2 8 (by decide) s
    obtain ⟨bt, bt2⟩ := hb t htn
    obtain ⟨bs, bs2⟩ := hb s hs
    have e : f_Mo_overtaken_5 (f + (r + 1) + 1) (nI s) 1 (nI n) (nI t) v = b_Mo_overtaken_5 (f_Mo_overtaken_5 (f + r + 1)) (nI s) 1 (nI n) (nI t) v := rfl
    have eF : ovF d b s t (r + 1) n = ovF d b s (t + 1) r (if d 9 t = d 9 s ∧ (d 8 s < d 8 t ∨ (d 8 t = d 8 s ∧ s < t)) ∧ b t < b s then n + 1 else n) := rfl
    have e141 : ∀ K, f_Mo_overtaken_141 K (nI s) 1 (nI t) (nI n) v = K (nI s) 1 (nI n) (nI (t + 1)) v := fun K => by
      unfold f_Mo_overtaken_141 f_Mo_overtaken_142
      rw [xl, nI_1, z0, nI_add, Nat.add_zero]
    have e142 : ∀ K, f_Mo_overtaken_142 K (nI s) 1 (nI t) 1 (nI n) v = K (nI s) 1 (nI (n + 1)) (nI (t + 1)) v := fun K => by
      unfold f_Mo_overtaken_142
      rw [xl, nI_1, nI_1]
    have e108 : ∀ K y0 y, f_Mo_overtaken_108 K (nI s) 1 (nI n) (nI t) y0 y v = if d 9 t = d 9 s ∧ ¬ y0 = 0 ∧ ¬ y = 0 then K (nI s) 1 (nI (n + 1)) (nI (t + 1)) v else K (nI s) 1 (nI n) (nI (t + 1)) v := fun K y0 y => by
      unfold f_Mo_overtaken_108
      rw [xi (show t < 4 by omega) (by decide), xi (show s < 4 by omega) (by decide), qcl (by omega), qcl (by omega), R9t, R9s, e141, e142]
      by_cases h1 : d 9 t = d 9 s
      · rw [if_pos (by rw [h1])]
        by_cases h2 : y0 = 0
        · rw [if_pos h2, if_neg (fun h => h.2.1 h2)]
        · rw [if_neg h2]
          by_cases h3 : y = 0
          · rw [if_pos h3, if_neg (fun h => h.2.2 h3)]
          · rw [if_neg h3, if_pos ⟨h1, h2, h3⟩]
      · rw [if_neg (fun h => h1 ((nI_eq (by omega) (by omega)).mp h)), if_neg (fun h => h1 h.1)]
    have e57 : ∀ K y0, f_Mo_overtaken_57 K (nI s) 1 (nI n) (nI t) y0 v = if d 9 t = d 9 s ∧ ¬ y0 = 0 ∧ b t < b s then K (nI s) 1 (nI (n + 1)) (nI (t + 1)) v else K (nI s) 1 (nI n) (nI (t + 1)) v := fun K y0 => by
      unfold f_Mo_overtaken_57
      rw [if_neg one_ne, xi (show t < 4 by omega) (by decide), xi (show s < 4 by omega) (by decide), qcl (by omega), qcl (by omega), bt, bs, e108, e108]
      by_cases h3 : b t < b s
      · rw [if_neg (nI_ge h3 bs2)]
        by_cases h4 : d 9 t = d 9 s ∧ ¬ y0 = 0
        · rw [if_pos ⟨h4.1, h4.2, one_ne⟩, if_pos ⟨h4.1, h4.2, h3⟩]
        · rw [if_neg (fun h => h4 ⟨h.1, h.2.1⟩), if_neg (fun h => h4 ⟨h.1, h.2.1⟩)]
      · rw [if_pos (nI_le (by omega) bt2), if_neg (fun h => h.2.2 rfl), if_neg (fun h => h3 h.2.2)]
    rw [e, eF]
    unfold b_Mo_overtaken_5 f_Mo_overtaken_52 f_Mo_overtaken_56
    rw [hM.2.1, if_neg (nI_ge htn (by omega))]
    simp only [xi (show t < 4 by omega) (by decide), xi (show s < 4 by omega) (by decide), qcl (show t < 2 ^ 31 by omega), qcl (show s < 2 ^ 31 by omega), R8t, R8s]
    have fin : ∀ (Q : Prop) [Decidable Q] (y0 : Int32), ((d 8 s < d 8 t ∨ (d 8 t = d 8 s ∧ s < t)) ↔ ¬ y0 = 0) → (if d 9 t = d 9 s ∧ ¬ y0 = 0 ∧ b t < b s then f_Mo_overtaken_5 (f + r + 1) (nI s) 1 (nI (n + 1)) (nI (t + 1)) v else f_Mo_overtaken_5 (f + r + 1) (nI s) 1 (nI n) (nI (t + 1)) v) = some (nI (ovF d b s (t + 1) r (if d 9 t = d 9 s ∧ (d 8 s < d 8 t ∨ (d 8 t = d 8 s ∧ s < t)) ∧ b t < b s then n + 1 else n)), v) := fun Q _ y0 hy => by
      by_cases h : d 9 t = d 9 s ∧ ¬ y0 = 0 ∧ b t < b s
      · rw [if_pos h, if_pos ⟨h.1, hy.mpr h.2.1, h.2.2⟩]
        exact ih (t + 1) (by omega) _ f
      · rw [if_neg h, if_neg (fun h9 => h ⟨h9.1, hy.mp h9.2.1, h9.2.2⟩)]
        exact ih (t + 1) (by omega) _ f
    by_cases h2 : d 8 s < d 8 t
    · rw [if_pos (nI_lt h2 (by omega))]
      rw [e57]
      exact fin True 1 ⟨fun _ => one_ne, fun _ => Or.inl h2⟩
    · rw [if_neg (fun h => h2 ((nI_ltI (by omega) (by omega)).mp h))]
      by_cases h3 : d 8 t = d 8 s
      · rw [if_pos (by rw [h3])]
        by_cases h4 : s < t
        · rw [if_neg (nI_ge h4 (by omega))]
          rw [e57]
          exact fin True 1 ⟨fun _ => one_ne, fun _ => Or.inr ⟨h3, h4⟩⟩
        · rw [if_pos (nI_le (by omega) (by omega))]
          rw [e57]
          exact fin True 0 ⟨fun h => by omega, fun h => absurd rfl h⟩
      · rw [if_neg (fun h => h3 ((nI_eq (by omega) (by omega)).mp h))]
        rw [e57]
        exact fin True 0 ⟨fun h => by omega, fun h => absurd rfl h⟩
theorem ovM1 (hA : AbOk nC nS nP g o d) (hM : RM nC nS nP g o d pl v) {b : Nat → Nat} (hb : ∀ s, s < nS → v.2 14 s = nI (b s) ∧ b s < 2 ^ 31) {s : Nat} (hs : s < nS) : f_Mo_overtaken (nI s) 1 v = some (nI (ovF d b s 0 nS 0), v) := by
  have hn := hA.2.1
  have := ovM1_from hA hM hb hs nS 0 (by omega) 0 (39 - nS)
  rw [show 39 - nS + nS + 1 = 40 by omega] at this
  exact this
theorem ovM0_from (hA : AbOk nC nS nP g o d) (hM : RM nC nS nP g o d pl v) {b : Nat → Nat} (hb : ∀ s, s < nS → v.2 16 s = nI (b s) ∧ b s < 2 ^ 31) {s : Nat} (hs : s < nS) : ∀ r t, t + r = nS → ∀ n f, f_Mo_overtaken_5 (f + r + 1) (nI s) 0 (nI n) (nI t) v = some (nI (ovF d b s t r n), v) := by
  have hn := hA.2.1
  intro r
  induction r with
  | zero =>
    intro t ht n f
    have ht : t = nS := by omega
    subst ht
    show b_Mo_overtaken_5 (f_Mo_overtaken_5 f) (nI s) _ (nI n) (nI t) v = _
    unfold b_Mo_overtaken_5
    rw [hM.2.1, if_pos (nI_le (Nat.le_refl _) (by omega))]
    rfl
  | succ r ih =>
    intro t ht n f
    have htn : t < nS := by omega
    have dt := hA.2.2.2.2.2.2.2 t htn
    have ds := hA.2.2.2.2.2.2.2 s hs
    have R9t := hM.2.2.2.2.2.2 9 (by decide) t
    have R9s := hM.2.2.2.2.2.2 9 (by decide) s
    have R8t := hM.2.2.2.2.2.2 8 (by decide) t
    have R8s := hM.2.2.2.2.2.2 8 (by decide) s
    obtain ⟨bt, bt2⟩ := hb t htn
    obtain ⟨bs, bs2⟩ := hb s hs
    have e : f_Mo_overtaken_5 (f + (r + 1) + 1) (nI s) 0 (nI n) (nI t) v = b_Mo_overtaken_5 (f_Mo_overtaken_5 (f + r + 1)) (nI s) 0 (nI n) (nI t) v := rfl
    have eF : ovF d b s t (r + 1) n = ovF d b s (t + 1) r (if d 9 t = d 9 s ∧ (d 8 s < d 8 t ∨ (d 8 t = d 8 s ∧ s < t)) ∧ b t < b s then n + 1 else n) := rfl
    have e141 : ∀ K, f_Mo_overtaken_141 K (nI s) 0 (nI t) (nI n) v = K (nI s) 0 (nI n) (nI (t + 1)) v := fun K => by
      unfold f_Mo_overtaken_141 f_Mo_overtaken_142
      rw [xl, nI_1, z0, nI_add, Nat.add_zero]
    have e142 : ∀ K, f_Mo_overtaken_142 K (nI s) 0 (nI t) 1 (nI n) v = K (nI s) 0 (nI (n + 1)) (nI (t + 1)) v := fun K => by
      unfold f_Mo_overtaken_142
      rw [xl, nI_1, nI_1]
    have e108 : ∀ K y0 y, f_Mo_overtaken_108 K (nI s) 0 (nI n) (nI t) y0 y v = if d 9 t = d 9 s ∧ ¬ y0 = 0 ∧ ¬ y = 0 then K (nI s) 0 (nI (n + 1)) (nI (t + 1)) v else K (nI s) 0 (nI n) (nI (t + 1)) v := fun K y0 y => by
      unfold f_Mo_overtaken_108
      rw [xi (show t < 4 by omega) (by decide), xi (show s < 4 by omega) (by decide), qcl (by omega), qcl (by omega), R9t, R9s, e141, e142]
      by_cases h1 : d 9 t = d 9 s
      · rw [if_pos (by rw [h1])]
        by_cases h2 : y0 = 0
        · rw [if_pos h2, if_neg (fun h => h.2.1 h2)]
        · rw [if_neg h2]
          by_cases h3 : y = 0
          · rw [if_pos h3, if_neg (fun h => h.2.2 h3)]
          · rw [if_neg h3, if_pos ⟨h1, h2, h3⟩]
      · rw [if_neg (fun h => h1 ((nI_eq (by omega) (by omega)).mp h)), if_neg (fun h => h1 h.1)]
    have e57 : ∀ K y0, f_Mo_overtaken_57 K (nI s) 0 (nI n) (nI t) y0 v = if d 9 t = d 9 s ∧ ¬ y0 = 0 ∧ b t < b s then K (nI s) 0 (nI (n + 1)) (nI (t + 1)) v else K (nI s) 0 (nI n) (nI (t + 1)) v := fun K y0 => by
      unfold f_Mo_overtaken_57
      rw [if_pos rfl, xi (show t < 4 by omega) (by decide), xi (show s < 4 by omega) (by decide), qcl (by omega), qcl (by omega), bt, bs, e108, e108]
      by_cases h3 : b t < b s
      · rw [if_neg (nI_ge h3 bs2)]
        by_cases h4 : d 9 t = d 9 s ∧ ¬ y0 = 0
        · rw [if_pos ⟨h4.1, h4.2, one_ne⟩, if_pos ⟨h4.1, h4.2, h3⟩]
        · rw [if_neg (fun h => h4 ⟨h.1, h.2.1⟩), if_neg (fun h => h4 ⟨h.1, h.2.1⟩)]
      · rw [if_pos (nI_le (by omega) bt2), if_neg (fun h => h.2.2 rfl), if_neg (fun h => h3 h.2.2)]
    rw [e, eF]
    unfold b_Mo_overtaken_5 f_Mo_overtaken_52 f_Mo_overtaken_56
    rw [hM.2.1, if_neg (nI_ge htn (by omega))]
    simp only [xi (show t < 4 by omega) (by decide), xi (show s < 4 by omega) (by decide), qcl (show t < 2 ^ 31 by omega), qcl (show s < 2 ^ 31 by omega), R8t, R8s]
    have fin : ∀ (Q : Prop) [Decidable Q] (y0 : Int32), ((d 8 s < d 8 t ∨ (d 8 t = d 8 s ∧ s < t)) ↔ ¬ y0 = 0) → (if d 9 t = d 9 s ∧ ¬ y0 = 0 ∧ b t < b s then f_Mo_overtaken_5 (f + r + 1) (nI s) 0 (nI (n + 1)) (nI (t + 1)) v else f_Mo_overtaken_5 (f + r + 1) (nI s) 0 (nI n) (nI (t + 1)) v) = some (nI (ovF d b s (t + 1) r (if d 9 t = d 9 s ∧ (d 8 s < d 8 t ∨ (d 8 t = d 8 s ∧ s < t)) ∧ b t < b s then n + 1 else n)), v) := fun Q _ y0 hy => by
      by_cases h : d 9 t = d 9 s ∧ ¬ y0 = 0 ∧ b t < b s
      · rw [if_pos h, if_pos ⟨h.1, hy.mpr h.2.1, h.2.2⟩]
        exact ih (t + 1) (by omega) _ f
      · rw [if_neg h, if_neg (fun h9 => h ⟨h9.1, hy.mp h9.2.1, h9.2.2⟩)]
        exact ih (t + 1) (by omega) _ f
    by_cases h2 : d 8 s < d 8 t
    · rw [if_pos (nI_lt h2 (by omega))]
      rw [e57]
      exact fin True 1 ⟨fun _ => one_ne, fun _ => Or.inl h2⟩
    · rw [if_neg (fun h => h2 ((nI_ltI (by omega) (by omega)).mp h))]
      by_cases h3 : d 8 t = d 8 s
      · rw [if_pos (by rw [h3])]
        by_cases h4 : s < t
        · rw [if_neg (nI_ge h4 (by omega))]
          rw [e57]
          exact fin True 1 ⟨fun _ => one_ne, fun _ => Or.inr ⟨h3, h4⟩⟩
        · rw [if_pos (nI_le (by omega) (by omega))]
          rw [e57]
          exact fin True 0 ⟨fun h => by omega, fun h => absurd rfl h⟩
      · rw [if_neg (fun h => h3 ((nI_eq (by omega) (by omega)).mp h))]
        rw [e57]
        exact fin True 0 ⟨fun h => by omega, fun h => absurd rfl h⟩
theorem ovM0 (hA : AbOk nC nS nP g o d) (hM : RM nC nS nP g o d pl v) {b : Nat → Nat} (hb : ∀ s, s < nS → v.2 16 s = nI (b s) ∧ b s < 2 ^ 31) {s : Nat} (hs : s < nS) : f_Mo_overtaken (nI s) 0 v = some (nI (ovF d b s 0 nS 0), v) := by
  have hn := hA.2.1
  have := ovM0_from hA hM hb hs nS 0 (by omega) 0 (39 - nS)
  rw [show 39 - nS + nS + 1 = 40 by omega] at this
  exact this
end MS
