/-! the reference lays ships in the first way too -/
def KeepM (s : Nat) (a b : St) : Prop := b.1 = a.1 ∧ (∀ k, k ≠ 11 → b.2 k = a.2 k) ∧ ∀ t, t < s → b.2 11 t = a.2 11 t
theorem KeepM.rf {s : Nat} {a : St} : KeepM s a a := ⟨rfl, fun _ _ => rfl, fun _ _ => rfl⟩
theorem KeepM.tr {s t : Nat} {a b c : St} (h1 : KeepM s a b) (h2 : KeepM t b c) (h : s ≤ t) : KeepM s a c := ⟨h2.1.trans h1.1, fun k p => (h2.2.1 k p).trans (h1.2.1 k p), fun u hu => (h2.2.2 u (by omega)).trans (h1.2.2 u hu)⟩
theorem KeepM.put {s i : Nat} {a : St} (hi : s ≤ i) (x : Int32) : KeepM s a (sA a 11 i x) := by
  refine ⟨rfl, fun k h => ?_, fun t ht => ?_⟩
  · funext j; rw [sA_at, if_neg h]
  · rw [sA_at, if_pos rfl, if_neg (by omega)]
theorem KeepM.RM {nC nS nP g o pl s : Nat} {d : Nat → Nat → Nat} {a b : St} (h : KeepM s a b) (hC : RM nC nS nP g o d pl a) : RM nC nS nP g o d pl b := by
  obtain ⟨c1, c2, c3, c4, c5, c6, cR⟩ := hC
  refine ⟨by rw [h.1]; exact c1, by rw [h.1]; exact c2, by rw [h.1]; exact c3, by rw [h.1]; exact c4, by rw [h.1]; exact c5, by rw [h.1]; exact c6, fun k hk i => ?_⟩
  rw [h.2.1 k (by omega)]
  exact cR k hk i
section LM
variable {nC nS nP g o pl : Nat} {d : Nat → Nat → Nat} {ch set : Nat}
def pMay (d : Nat → Nat → Nat) (g ch set s : Nat) (L : Nat → Nat) (a : Nat) : Prop := pStand d ch s (a / 3) (a % 3) ∧ ∀ t, t < s → set.testBit t = true → pClear d g s (a / 3) (a % 3) t (L t / 3) (L t % 3)
theorem may_loop (hA : AbOk nC nS nP g o d) (hset : set < 16) {s x y : Nat} (hs : s < nS) (hx : x < 24) (hy : y < 24) {v : St} (hM : RM nC nS nP g o d pl v) {L : Nat → Nat} (hL : ∀ t, t < s → v.2 11 t = nI (L t) ∧ L t < 24) : ∀ n t, t ≤ s → s + 1 ≤ t + n → ∃ r, f_Mo_mayLie_97 n (nI set) (nI s) (nI x) (nI y) (nI t) v = some (r, v) ∧ Ans (∀ u, t ≤ u → u < s → set.testBit u = true → pClear d g s x y u (L u / 3) (L u % 3)) r := by
  have hn4 := hA.2.1
  have hg := hA.2.2.2.1
  have dS := hA.2.2.2.2.2.2.2 s hs
  intro n
  induction n with
  | zero => intro t h1 h2; omega
  | succ n ih =>
    intro t h1 h2
    show ∃ r, b_Mo_mayLie_97 (f_Mo_mayLie_97 n) (nI set) (nI s) (nI x) (nI y) (nI t) v = some (r, v) ∧ _
    unfold b_Mo_mayLie_97
    rcases Nat.eq_or_lt_of_le h1 with rfl | h1
    · rw [if_pos (nI_le (Nat.le_refl _) (by omega))]
      exact ⟨1, rfl, Or.inl ⟨rfl, fun u h3 h4 => by omega⟩⟩
    · have dT := hA.2.2.2.2.2.2.2 t (by omega)
      obtain ⟨l1, l2⟩ := hL t h1
      have m4 : v.1 4 = nI g := hM.2.2.2.1
      have mR := hM.2.2.2.2.2.2
      have e6 := mR 6 (by omega)
      have e7 := mR 7 (by omega)
      rw [if_neg (nI_ge h1 (by omega))]
      obtain ⟨r, er, hr⟩ := ih (t + 1) (by omega) (by omega)
      have yes : pClear d g s x y t (L t / 3) (L t % 3) → ∃ r, f_Mo_mayLie_203 (f_Mo_mayLie_97 n) (nI set) (nI s) (nI x) (nI y) (nI t) v = some (r, v) ∧ Ans (∀ u, t ≤ u → u < s → set.testBit u = true → pClear d g s x y u (L u / 3) (L u % 3)) r := by
        intro hc
        refine ⟨r, ?_, hr.iff ⟨fun h u h3 h4 h5 => ?_, fun h u h3 h4 h5 => h u (by omega) h4 h5⟩⟩
        · unfold f_Mo_mayLie_203 f_Mo_mayLie_208 f_Mo_mayLie_227
          rw [if_neg one_ne, nI_1, ite_self, er]
        · rcases Nat.eq_or_lt_of_le h3 with rfl | h3
          · exact hc
          · exact h u h3 h4 h5
      have no : ¬ pClear d g s x y t (L t / 3) (L t % 3) → ∃ r, f_Mo_mayLie_208 (f_Mo_mayLie_97 n) (nI set) (nI s) (nI x) (nI y) (nI t) 0 v = some (r, v) ∧ Ans (∀ u, t ≤ u → u < s → set.testBit u = true → pClear d g s x y u (L u / 3) (L u % 3)) r := by
        intro hc
        unfold f_Mo_mayLie_208 f_Mo_mayLie_227
        have q := qb1 (set := set) (s := t) (by omega) (by omega)
        rw [← z1, ← z31] at q
        simp only [q]
        cases hb : set.testBit t
        · rw [if_neg (by simp), nI_1, er]
          refine ⟨r, rfl, hr.iff ⟨fun h u h3 h4 h5 => ?_, fun h u h3 h4 h5 => h u (by omega) h4 h5⟩⟩
          rcases Nat.eq_or_lt_of_le h3 with rfl | h3
          · rw [hb] at h5; cases h5
          · exact h u h3 h4 h5
        · rw [if_pos rfl, if_pos trivial]
          exact ⟨0, rfl, Or.inr ⟨rfl, fun h => hc (h t (Nat.le_refl _) h1 hb)⟩⟩
      have r3 : nI (L t) - nI (L t) / 3 * 3 = nI (L t % 3) := pk_rem (d := 3) (by omega) (by decide) (by decide)
      have d3 : nI (L t) / 3 = nI (L t / 3) := pk_div (d := 3) (by omega) (by decide) (by decide)
      have b1 : t < 5 := by omega
      have b2 : t < 4 := by omega
      have b3 : s < 4 := by omega
      simp only [xlet, xi b1 (by decide), xi b2 (by decide), xi b3 (by decide), qcl (show t < 2 ^ 31 by omega), qcl (show s < 2 ^ 31 by omega), l1, m4, e6, e7]
      rw [r3, d3]
      simp only [qadd]
      by_cases c1 : x + d 6 s + g ≤ L t / 3
      · rw [if_pos (nI_le c1 (by omega))]; exact yes (Or.inl c1)
      · rw [if_neg (nI_ge (by omega) (by omega))]
        by_cases c2 : L t / 3 + d 6 t + g ≤ x
        · rw [if_pos (nI_le c2 (by omega))]; exact yes (Or.inr (Or.inl c2))
        · rw [if_neg (nI_ge (by omega) (by omega))]
          by_cases c3 : y + d 7 s + g ≤ L t % 3
          · rw [if_pos (nI_le c3 (by omega))]; exact yes (Or.inr (Or.inr (Or.inl c3)))
          · rw [if_neg (nI_ge (by omega) (by omega))]
            by_cases c4 : y < L t % 3 + d 7 t + g
            · rw [if_pos (nI_lt c4 (by omega))]
              exact no (by unfold pClear; omega)
            · rw [if_neg (nI_nlt (by omega) (by omega))]; exact yes (Or.inr (Or.inr (Or.inr (by omega))))
theorem may_eq (hA : AbOk nC nS nP g o d) (hch : ch < nC) (hset : set < 16) {s a : Nat} (hs : s < nS) (ha : a < 24) {v : St} (hM : RM nC nS nP g o d pl v) {L : Nat → Nat} (hL : ∀ t, t < s → v.2 11 t = nI (L t) ∧ L t < 24) : ∃ r, f_Mo_mayLie (nI ch) (nI set) (nI s) (nI a) v = some (r, v) ∧ Ans (pMay d g ch set s L a) r := by
  have hn4 := hA.2.1
  have hc2 := hA.1
  have dS := hA.2.2.2.2.2.2.2 s hs
  have dC := hA.2.2.2.2.2.1 ch hch
  have mR := hM.2.2.2.2.2.2
  have e0 := mR 0 (by omega)
  have e1 := mR 1 (by omega)
  have e6 := mR 6 (by omega)
  have e7 := mR 7 (by omega)
  have e10 := mR 10 (by omega)
  have r3 : nI a - nI a / 3 * 3 = nI (a % 3) := pk_rem (d := 3) (by omega) (by decide) (by decide)
  have d3 : nI a / 3 = nI (a / 3) := pk_div (d := 3) (by omega) (by decide) (by decide)
  obtain ⟨r, er, hr⟩ := may_loop (x := a / 3) (y := a % 3) hA hset hs (by omega) (by omega) hM hL 40 0 (by omega) (by omega)
  have no : ¬ pStand d ch s (a / 3) (a % 3) → ∃ r, some ((0 : Int32), v) = some (r, v) ∧ Ans (pMay d g ch set s L a) r := fun h => ⟨0, rfl, Or.inr ⟨rfl, fun h9 => h h9.1⟩⟩
  have yes : pStand d ch s (a / 3) (a % 3) → ∃ r, f_Mo_mayLie_94 (nI set) (nI s) (nI (a / 3)) (nI (a % 3)) v = some (r, v) ∧ Ans (pMay d g ch set s L a) r := fun h => ⟨r, er, hr.iff ⟨fun h9 => ⟨h, fun t => h9 t (Nat.zero_le _)⟩, fun h9 t _ => h9.2 t⟩⟩
  have b2 : ch < 2 := by omega
  have b3 : s < 4 := by omega
  unfold f_Mo_mayLie
  rw [r3, d3]
  simp only [xlet, f_Mo_mayLie_64, xi b2 (by decide), xi b3 (by decide), qcl (show ch < 2 ^ 31 by omega), qcl (show s < 2 ^ 31 by omega), e0, e1, e6, e7, e10, qadd]
  by_cases c1 : d 0 ch < a / 3 + d 6 s
  · rw [if_pos (nI_lt c1 (by omega))]; exact no (fun h => by have := h.1; omega)
  · rw [if_neg (nI_nlt (by omega) (by omega))]
    by_cases c2 : a % 3 + d 7 s ≤ d 1 ch
    · rw [if_pos (nI_le c2 (by omega))]
      by_cases c3 : d 10 s = 0
      · rw [if_pos (show nI (d 10 s) = 0 by rw [c3]; rfl)]
        by_cases c4 : 0 < a % 3
        · rw [if_pos (show (0 : Int32) < nI (a % 3) from nI_lt (a := 0) c4 (by omega))]; exact no (fun h => by have := h.2.2.1 c3; omega)
        · rw [if_neg (show ¬ (0 : Int32) < nI (a % 3) from nI_nlt (b := a % 3) (a := 0) (by omega) (by omega)), if_neg (show ¬ nI (d 10 s) = 1 by rw [c3]; decide)]
          exact yes ⟨by omega, by omega, fun _ => by omega, fun _ => by omega⟩
      · rw [if_neg (show ¬ nI (d 10 s) = 0 from nI_ne0 (by omega) (by omega))]
        by_cases c4 : d 10 s = 1
        · rw [if_pos (show nI (d 10 s) = 1 by rw [c4]; rfl)]
          by_cases c5 : a % 3 + d 7 s = d 1 ch
          · rw [if_pos (congrArg nI c5)]; exact yes ⟨by omega, by omega, fun _ => by omega, fun _ => by omega⟩
          · rw [if_neg (fun h => c5 ((nI_eq (by omega) (by omega)).mp h))]; exact no (fun h => c5 (h.2.2.2 c4))
        · rw [if_neg (show ¬ nI (d 10 s) = 1 from fun h => c4 ((nI_eq (b := 1) (by omega) (by omega)).mp h))]; exact yes ⟨by omega, by omega, fun _ => by omega, fun _ => by omega⟩
    · rw [if_neg (nI_ge (by omega) (by omega))]; exact no (fun h => c2 h.2.1)
/-- the next place of a ship -/
theorem next_eq (hA : AbOk nC nS nP g o d) (hch : ch < nC) (hset : set < 16) {s : Nat} (hs : s < nS) {v : St} (hM : RM nC nS nP g o d pl v) {L : Nat → Nat} (hL : ∀ t, t < s → v.2 11 t = nI (L t) ∧ L t < 24) (K9 : Int32 → Int32 → Int32 → St → Option (Int32 × St)) : ∀ n a, a ≤ 24 → 25 ≤ a + n → ∃ a', a ≤ a' ∧ a' ≤ 24 ∧ (∀ b, a ≤ b → b < a' → ¬ pMay d g ch set s L b) ∧ (a' < 24 → pMay d g ch set s L a') ∧ f_Mo_lay_47 K9 n (nI ch) (nI set) (nI s) (nI a) 1 v = f_Mo_lay_86 K9 (nI ch) (nI set) (nI s) (nI a') 1 v := by
  intro n
  induction n with
  | zero => intro a h1 h2; omega
  | succ n ih =>
    intro a h1 h2
    show ∃ a', a ≤ a' ∧ a' ≤ 24 ∧ (∀ b, a ≤ b → b < a' → ¬ pMay d g ch set s L b) ∧ (a' < 24 → pMay d g ch set s L a') ∧ b_Mo_lay_47 K9 (f_Mo_lay_47 K9 n) (nI ch) (nI set) (nI s) (nI a) 1 v = _
    unfold b_Mo_lay_47 f_Mo_lay_60
    simp only [if_neg one_ne]
    rcases Nat.eq_or_lt_of_le h1 with rfl | h1
    · rw [if_pos (show (24 : Int32) ≤ nI 24 by decide)]
      exact ⟨24, by omega, by omega, fun b _ _ => by omega, fun h => by omega, rfl⟩
    · rw [if_neg (show ¬ (24 : Int32) ≤ nI a from nI_ge (b := 24) h1 (by decide))]
      obtain ⟨r, er, hr⟩ := may_eq hA hch hset hs h1 hM hL
      rw [er]
      simp only [Option.bind_some]
      rcases hr with ⟨rfl, hr⟩ | ⟨rfl, hr⟩
      · rw [if_neg one_ne]
        exact ⟨a, by omega, by omega, fun b _ _ => by omega, fun _ => hr, rfl⟩
      · rw [if_pos rfl, nI_1]
        obtain ⟨a', p1, p2, p3, p4, p5⟩ := ih (a + 1) (by omega) (by omega)
        refine ⟨a', by omega, p2, fun b h3 h4 => ?_, p4, p5⟩
        rcases Nat.eq_or_lt_of_le h3 with rfl | h3
        · exact hr
        · exact p3 b h3 h4
end LM
