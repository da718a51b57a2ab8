/-! the search, in numbers -/
def spStep (d : Nat → Nat → Nat) (ch k v : Nat) : Nat := if d 3 k = ch ∧ v < d 5 k ∧ d 4 k < v + d 2 ch then d 5 k else v
def spPass (d : Nat → Nat → Nat) (ch : Nat) : Nat → Nat → Nat → Nat
  | _, 0, v => v
  | k, r + 1, v => spPass d ch (k + 1) r (spStep d ch k v)
def spCnt (d : Nat → Nat → Nat) (v : Nat) : Nat → Nat
  | 0 => 0
  | n + 1 => spCnt d v n + (if v < d 5 n then 1 else 0)
section SP
variable {d : Nat → Nat → Nat} {ch nP : Nat}
theorem spCnt_le (v n : Nat) : spCnt d v n ≤ n := by
  induction n with
  | zero => exact Nat.le_refl _
  | succ n ih =>
    show spCnt d v n + (if v < d 5 n then 1 else 0) ≤ n + 1
    split <;> omega
theorem spCnt_mono {v w : Nat} (h : v ≤ w) (n : Nat) : spCnt d w n ≤ spCnt d v n := by
  induction n with
  | zero => exact Nat.le_refl _
  | succ n ih =>
    show spCnt d w n + (if w < d 5 n then 1 else 0) ≤ spCnt d v n + (if v < d 5 n then 1 else 0)
    split <;> split <;> omega
theorem spCnt_lt {v w k : Nat} (h : v ≤ w) (hk : v < d 5 k) (hw : d 5 k ≤ w) : ∀ n, k < n → spCnt d w n < spCnt d v n := by
  intro n
  induction n with
  | zero => intro h9; omega
  | succ n ih =>
    intro hn
    show spCnt d w n + (if w < d 5 n then 1 else 0) < spCnt d v n + (if v < d 5 n then 1 else 0)
    rcases Nat.eq_or_lt_of_le (Nat.le_of_lt_succ hn) with rfl | h9
    · have := spCnt_mono (d := d) h k
      rw [if_neg (by omega), if_pos hk]
      omega
    · have := ih h9
      split <;> split <;> omega
theorem spStep_ge (k v : Nat) : v ≤ spStep d ch k v := by
  unfold spStep
  split <;> omega
theorem spPass_ge (r : Nat) : ∀ k v, v ≤ spPass d ch k r v := by
  induction r with
  | zero => intro k v; exact Nat.le_refl _
  | succ r ih => intro k v; exact Nat.le_trans (spStep_ge k v) (ih _ _)
theorem spPass_ne (r : Nat) : ∀ k v, spPass d ch k r v ≠ v → ∃ j, k ≤ j ∧ j < k + r ∧ v < d 5 j ∧ d 5 j ≤ spPass d ch k r v := by
  induction r with
  | zero => intro k v h; exact absurd rfl h
  | succ r ih =>
    intro k v h
    have h' : spPass d ch (k + 1) r (spStep d ch k v) ≠ v := h
    by_cases hc : d 3 k = ch ∧ v < d 5 k ∧ d 4 k < v + d 2 ch
    · have e : spStep d ch k v = d 5 k := if_pos hc
      refine ⟨k, Nat.le_refl _, by omega, hc.2.1, ?_⟩
      have := spPass_ge (d := d) (ch := ch) r (k + 1) (spStep d ch k v)
      rw [e] at this
      show d 5 k ≤ spPass d ch (k + 1) r (spStep d ch k v)
      rw [e]; exact this
    · have e : spStep d ch k v = v := if_neg hc
      rw [e] at h'
      obtain ⟨j, h1, h2, h3, h4⟩ := ih (k + 1) v h'
      refine ⟨j, by omega, by omega, h3, ?_⟩
      show d 5 j ≤ spPass d ch (k + 1) r (spStep d ch k v)
      rw [e]; exact h4
theorem spPass_le (r : Nat) : ∀ k v B, (∀ j, k ≤ j → j < k + r → d 5 j ≤ B) → v ≤ B → spPass d ch k r v ≤ B := by
  induction r with
  | zero => intro k v B _ h; exact h
  | succ r ih =>
    intro k v B hB h
    refine ih (k + 1) _ B (fun j h1 h2 => hB j (by omega) (by omega)) ?_
    unfold spStep
    split
    · exact hB k (Nat.le_refl _) (by omega)
    · exact h
def spIt (d : Nat → Nat → Nat) (ch nP : Nat) : Nat → Nat → Nat
  | 0, v => v
  | n + 1, v => spIt d ch nP n (spPass d ch 0 nP v)
theorem spIt_const {v : Nat} (h : spPass d ch 0 nP v = v) : ∀ n, spIt d ch nP n v = v := by
  intro n
  induction n with
  | zero => rfl
  | succ n ih => show spIt d ch nP n (spPass d ch 0 nP v) = v; rw [h, ih]
theorem spIt_out : ∀ n v, spIt d ch nP (n + 1) v = spPass d ch 0 nP (spIt d ch nP n v) := by
  intro n
  induction n with
  | zero => intro v; rfl
  | succ n ih => intro v; exact ih _
theorem spIt_fix : ∀ n v, spCnt d v nP ≤ n → spPass d ch 0 nP (spIt d ch nP n v) = spIt d ch nP n v := by
  intro n
  induction n with
  | zero =>
    intro v h
    show spPass d ch 0 nP v = v
    by_cases h9 : spPass d ch 0 nP v = v
    · exact h9
    · obtain ⟨j, -, h2, h3, h4⟩ := spPass_ne _ _ _ h9
      have := spCnt_lt (d := d) (spPass_ge _ _ _) h3 h4 nP (by omega)
      omega
  | succ n ih =>
    intro v h
    by_cases h9 : spPass d ch 0 nP v = v
    · rw [spIt_const h9, h9]
    · obtain ⟨j, -, h2, h3, h4⟩ := spPass_ne _ _ _ h9
      have := spCnt_lt (d := d) (spPass_ge _ _ _) h3 h4 nP (by omega)
      exact ih _ (by omega)
theorem spIt_ge : ∀ n v, v ≤ spIt d ch nP n v := by
  intro n
  induction n with
  | zero => intro v; exact Nat.le_refl _
  | succ n ih => intro v; exact Nat.le_trans (spPass_ge nP 0 v) (ih _)
theorem spIt_le {B : Nat} (hB : ∀ j, j < nP → d 5 j ≤ B) : ∀ n v, v ≤ B → spIt d ch nP n v ≤ B := by
  intro n
  induction n with
  | zero => intro v h; exact h
  | succ n ih => intro v h; exact ih _ (spPass_le nP 0 v B (fun j _ h2 => hB j (by omega)) h)
end SP
def opn (d : Nat → Nat → Nat) (ch nP t : Nat) : Nat := spIt d ch nP 8 t
/-- the latest arrival of a set, from a time on -/
def arrF (d : Nat → Nat → Nat) (set : Nat) : Nat → Nat → Nat → Nat
  | _, 0, t => t
  | s, r + 1, t => arrF d set (s + 1) r (if set.testBit s = true then (if t < d 8 s then d 8 s else t) else t)
section AR
variable {d : Nat → Nat → Nat} {set : Nat}
theorem arrF_none : ∀ r s t, (∀ u, s ≤ u → set.testBit u = false) → arrF d set s r t = t := by
  intro r
  induction r with
  | zero => intro s t _; rfl
  | succ r ih =>
    intro s t h
    show arrF d set (s + 1) r (if set.testBit s = true then _ else t) = t
    rw [h s (Nat.le_refl _), if_neg (by decide)]
    exact ih _ _ (fun u hu => h u (by omega))
theorem arrF_ge : ∀ r s t, t ≤ arrF d set s r t := by
  intro r
  induction r with
  | zero => intro s t; exact Nat.le_refl _
  | succ r ih =>
    intro s t
    refine Nat.le_trans ?_ (ih _ _)
    split
    · split <;> omega
    · exact Nat.le_refl _
theorem arrF_mem : ∀ r s t u, s ≤ u → u < s + r → set.testBit u = true → d 8 u ≤ arrF d set s r t := by
  intro r
  induction r with
  | zero => intro s t u h1 h2; omega
  | succ r ih =>
    intro s t u h1 h2 h3
    rcases Nat.eq_or_lt_of_le h1 with rfl | h1
    · refine Nat.le_trans ?_ (arrF_ge r (s + 1) _)
      rw [if_pos h3]
      split <;> omega
    · exact ih _ _ u h1 (by omega) h3
theorem arrF_le : ∀ r s t B, (∀ u, set.testBit u = true → d 8 u ≤ B) → t ≤ B → arrF d set s r t ≤ B := by
  intro r
  induction r with
  | zero => intro s t B _ h; exact h
  | succ r ih =>
    intro s t B h1 h2
    refine ih _ _ B h1 ?_
    split
    · split
      · exact h1 s (by assumption)
      · exact h2
    · exact h2
theorem arrF_max : ∀ r s a t, arrF d set s r (if a < t then t else a) = (if a < arrF d set s r t then arrF d set s r t else a) := by
  intro r
  induction r with
  | zero => intro s a t; rfl
  | succ r ih =>
    intro s a t
    show arrF d set (s + 1) r (if set.testBit s = true then (if (if a < t then t else a) < d 8 s then d 8 s else (if a < t then t else a)) else (if a < t then t else a)) = (if a < arrF d set (s + 1) r (if set.testBit s = true then (if t < d 8 s then d 8 s else t) else t) then arrF d set (s + 1) r (if set.testBit s = true then (if t < d 8 s then d 8 s else t) else t) else a)
    rw [← ih]
    congr 1
    by_cases hb : set.testBit s = true
    · simp only [if_pos hb]
      split <;> split <;> (try split) <;> (try split) <;> omega
    · simp only [if_neg hb]
end AR
def firstN (set : Nat) : Nat := if set.testBit 0 = true then 0 else if set.testBit 1 = true then 1 else if set.testBit 2 = true then 2 else 3
def dirN (d : Nat → Nat → Nat) (set : Nat) : Nat := d 9 (firstN set)
def oneW (d : Nat → Nat → Nat) (set : Nat) : Prop := ∀ s, s < 4 → set.testBit s = true → d 9 s = dirN d set
theorem firstN_lt (set : Nat) : firstN set < 4 := by
  unfold firstN
  split
  · decide
  · split
    · decide
    · split <;> decide
theorem firstN_bit {set : Nat} (h : set < 16) (h0 : set ≠ 0) : set.testBit (firstN set) = true ∧ ∀ s, s < firstN set → set.testBit s = false := by
  have H : ∀ x : Fin 16, x.val ≠ 0 → x.val.testBit (firstN x.val) = true ∧ ∀ s : Fin 4, s.val < firstN x.val → x.val.testBit s.val = false := by decide
  obtain ⟨h1, h2⟩ := H ⟨set, h⟩ h0
  exact ⟨h1, fun s hs => h2 ⟨s, by have := firstN_lt set; omega⟩ hs⟩
/-- the ships of a run -/
def setA (nS : Nat) (a : Nat → Nat) (q : Nat) : Nat := mkS (fun s => decide (s < nS ∧ a s = q))
section SA
variable {nS : Nat} {a : Nat → Nat}
theorem setA_lt (q : Nat) : setA nS a q < 16 := mkS_lt _
theorem setA_bit (hn : nS ≤ 4) (q s : Nat) : (setA nS a q).testBit s = true ↔ s < nS ∧ a s = q := by
  rcases Nat.lt_or_ge s 4 with h | h
  · unfold setA
    rw [mkS_bit _ h]
    exact decide_eq_true_iff
  · rw [Nat.testBit_lt_two_pow (Nat.lt_of_lt_of_le (setA_lt q) (Nat.pow_le_pow_right (n := 2) (by decide) h))]
    constructor
    · intro h9; cases h9
    · intro h9; omega
theorem setA_pow (hn : nS ≤ 4) (q : Nat) : setA nS a q < 2 ^ nS := by
  apply Nat.lt_pow_two_of_testBit
  intro n hn'
  cases h : (setA nS a q).testBit n
  · rfl
  · have := (setA_bit hn q n).mp h
    omega
theorem setA_ne (hn : nS ≤ 4) (q : Nat) : setA nS a q ≠ 0 ↔ ∃ s, s < nS ∧ a s = q := by
  constructor
  · intro h
    obtain ⟨s, hs⟩ := set_ne0 h
    exact ⟨s, (setA_bit hn q s).mp hs⟩
  · rintro ⟨s, hs⟩ h
    have := (setA_bit hn q s).mpr hs
    rw [h, Nat.zero_testBit] at this
    cases this
theorem setA_congr {a' : Nat → Nat} {q : Nat} (h : ∀ s, s < nS → (a s = q ↔ a' s = q)) : setA nS a q = setA nS a' q := by
  unfold setA
  congr 1
  funext s
  by_cases hs : s < nS
  · have := h s hs
    simp [hs, this]
  · simp [hs]
end SA
def bgS (d : Nat → Nat → Nat) (nP c set : Nat) (fl : Nat × Nat) : Nat := opn d c nP (arrF d set 0 4 (if fl.2 = dirN d set then fl.1 else fl.1 + d 2 c))
/-- chamber c before its run r: free from, level -/
def cst (d : Nat → Nat → Nat) (nP : Nat) (S : Nat → Nat) (c : Nat) : Nat → Nat × Nat
  | 0 => (0, 0)
  | r + 1 => if S (4 * c + r) = 0 then cst d nP S c r else (bgS d nP c (S (4 * c + r)) (cst d nP S c r) + d 2 c, 1 - dirN d (S (4 * c + r)))
def bgn (d : Nat → Nat → Nat) (nP : Nat) (S : Nat → Nat) (c r : Nat) : Nat := bgS d nP c (S (4 * c + r)) (cst d nP S c r)
def bA (d : Nat → Nat → Nat) (nP nS : Nat) (a : Nat → Nat) (s : Nat) : Nat := bgn d nP (setA nS a) (a s / 4) (a s % 4)
section CH
variable {nC nS nP g o : Nat} {d : Nat → Nat → Nat}
theorem cst_congr {S S' : Nat → Nat} {c : Nat} : ∀ r, (∀ k, k < r → S (4 * c + k) = S' (4 * c + k)) → cst d nP S c r = cst d nP S' c r := by
  intro r
  induction r with
  | zero => intro _; rfl
  | succ r ih =>
    intro h
    show (if S (4 * c + r) = 0 then cst d nP S c r else _) = (if S' (4 * c + r) = 0 then cst d nP S' c r else _)
    rw [h r (by omega), ih (fun k hk => h k (by omega))]
theorem bgn_congr {S S' : Nat → Nat} {c r : Nat} (h : ∀ k, k ≤ r → S (4 * c + k) = S' (4 * c + k)) : bgn d nP S c r = bgn d nP S' c r := by
  unfold bgn
  rw [cst_congr r (fun k hk => h k (by omega)), h r (Nat.le_refl _)]
theorem bgS_ge (c set : Nat) (fl : Nat × Nat) : fl.1 ≤ bgS d nP c set fl := by
  unfold bgS opn
  refine Nat.le_trans ?_ (spIt_ge _ _)
  refine Nat.le_trans ?_ (arrF_ge _ _ _)
  split <;> omega
theorem bgS_mem {c set s : Nat} {fl : Nat × Nat} (hs : s < 4) (h : set.testBit s = true) : d 8 s ≤ bgS d nP c set fl := by
  unfold bgS opn
  exact Nat.le_trans (arrF_mem 4 0 _ s (Nat.zero_le _) (by omega) h) (spIt_ge _ _)
theorem bgS_le (hA : AbOk nC nS nP g o d) {c set M : Nat} {fl : Nat × Nat} (hc : c < nC) (hset : set < 2 ^ nS) (h : fl.1 + 60 ≤ M) (hM : 10000 ≤ M) : bgS d nP c set fl ≤ M := by
  have dC := hA.2.2.2.2.2.1 c hc
  unfold bgS opn
  refine spIt_le (fun j hj => ?_) _ _ (arrF_le 4 0 _ _ (fun u hu => ?_) ?_)
  · have := hA.2.2.2.2.2.2.1 j hj
    omega
  · have := hA.2.2.2.2.2.2.2 u (bit_lt hset hu)
    omega
  · split <;> omega
theorem cst_bd (hA : AbOk nC nS nP g o d) {c : Nat} {S : Nat → Nat} (hc : c < nC) (hS : ∀ q, S q < 2 ^ nS) : ∀ r, (cst d nP S c r).1 ≤ 10000 + 120 * r ∧ (cst d nP S c r).2 ≤ 1 := by
  have dC := hA.2.2.2.2.2.1 c hc
  intro r
  induction r with
  | zero => exact ⟨Nat.zero_le _, Nat.zero_le _⟩
  | succ r ih =>
    show (if S (4 * c + r) = 0 then cst d nP S c r else (bgS d nP c (S (4 * c + r)) (cst d nP S c r) + d 2 c, 1 - dirN d (S (4 * c + r)))).1 ≤ _ ∧ (if S (4 * c + r) = 0 then cst d nP S c r else (bgS d nP c (S (4 * c + r)) (cst d nP S c r) + d 2 c, 1 - dirN d (S (4 * c + r)))).2 ≤ 1
    split
    · exact ⟨by omega, ih.2⟩
    · have := bgS_le hA (c := c) (set := S (4 * c + r)) (M := 10000 + 120 * r + 60) (fl := cst d nP S c r) hc (hS _) (by have := ih.1; omega) (by omega)
      exact ⟨by show bgS d nP c (S (4 * c + r)) (cst d nP S c r) + d 2 c ≤ _; omega, by show 1 - dirN d (S (4 * c + r)) ≤ 1; omega⟩
theorem cst_next {c r : Nat} {S : Nat → Nat} (h : S (4 * c + r) ≠ 0) : cst d nP S c (r + 1) = (bgn d nP S c r + d 2 c, 1 - dirN d (S (4 * c + r))) := if_neg h
theorem cst_mono {c : Nat} {S : Nat → Nat} : ∀ k r, (cst d nP S c r).1 ≤ (cst d nP S c (r + k)).1 := by
  intro k
  induction k with
  | zero => intro r; exact Nat.le_refl _
  | succ k ih =>
    intro r
    refine Nat.le_trans (ih r) ?_
    show _ ≤ (if S (4 * c + (r + k)) = 0 then cst d nP S c (r + k) else (bgS d nP c (S (4 * c + (r + k))) (cst d nP S c (r + k)) + d 2 c, _)).1
    split
    · exact Nat.le_refl _
    · exact Nat.le_trans (bgS_ge _ _ _) (Nat.le_add_right _ _)
theorem bgn_lt {c r r' : Nat} {S : Nat → Nat} (h : S (4 * c + r) ≠ 0) (hf : 0 < d 2 c) (hr : r < r') : bgn d nP S c r < bgn d nP S c r' := by
  have h1 : (cst d nP S c r').1 ≤ bgn d nP S c r' := bgS_ge _ _ _
  have h2 := cst_mono (d := d) (nP := nP) (c := c) (S := S) (r' - (r + 1)) (r + 1)
  rw [show r + 1 + (r' - (r + 1)) = r' by omega, cst_next h] at h2
  have h3 : bgn d nP S c r + d 2 c ≤ (cst d nP S c r').1 := h2
  omega
end CH
