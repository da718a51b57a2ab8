/-! plans, their keys -/
def ovF (d : Nat → Nat → Nat) (b : Nat → Nat) (s : Nat) : Nat → Nat → Nat → Nat
  | _, 0, n => n
  | t, r + 1, n => ovF d b s (t + 1) r (if d 9 t = d 9 s ∧ (d 8 s < d 8 t ∨ (d 8 t = d 8 s ∧ s < t)) ∧ b t < b s then n + 1 else n)
theorem ovF_congr {d : Nat → Nat → Nat} {b b' : Nat → Nat} {s N : Nat} (hs : b s = b' s) : ∀ r t n, t + r = N → (∀ u, u < N → b u = b' u) → ovF d b s t r n = ovF d b' s t r n := by
  intro r
  induction r with
  | zero => intro t n _ _; rfl
  | succ r ih =>
    intro t n h1 h2
    show ovF d b s (t + 1) r _ = ovF d b' s (t + 1) r _
    rw [ih (t + 1) _ (by omega) h2, hs, h2 t (by omega)]
theorem ovF_le {d : Nat → Nat → Nat} {b : Nat → Nat} {s : Nat} : ∀ r t n, ovF d b s t r n ≤ n + r := by
  intro r
  induction r with
  | zero => intro t n; exact Nat.le_refl _
  | succ r ih =>
    intro t n
    refine Nat.le_trans (ih (t + 1) _) ?_
    split <;> omega
def wF (d : Nat → Nat → Nat) (b : Nat → Nat) (P : Nat → Bool) : Nat → Nat → Nat → Nat
  | _, 0, n => n
  | s, r + 1, n => wF d b P (s + 1) r (n + if P s = true then b s - d 8 s else 0)
def wS (d : Nat → Nat → Nat) (b : Nat → Nat) (P : Nat → Bool) : Nat := wF d b P 0 4 0
theorem wS_eq (d : Nat → Nat → Nat) (b : Nat → Nat) (P : Nat → Bool) : wS d b P = 0 + (if P 0 = true then b 0 - d 8 0 else 0) + (if P 1 = true then b 1 - d 8 1 else 0) + (if P 2 = true then b 2 - d 8 2 else 0) + (if P 3 = true then b 3 - d 8 3 else 0) := rfl
theorem wF_none {d : Nat → Nat → Nat} {b : Nat → Nat} {P : Nat → Bool} : ∀ r s n, (∀ u, s ≤ u → P u = false) → wF d b P s r n = n := by
  intro r
  induction r with
  | zero => intro s n _; rfl
  | succ r ih =>
    intro s n h
    show wF d b P (s + 1) r (n + if P s = true then b s - d 8 s else 0) = n
    rw [h s (Nat.le_refl _), if_neg (by decide)]
    exact ih _ _ (fun u hu => h u (by omega))
theorem wS_add {d : Nat → Nat → Nat} {b b1 b2 : Nat → Nat} {P P1 P2 : Nat → Bool} (h : ∀ s, s < 4 → (if P s = true then b s - d 8 s else 0) = (if P1 s = true then b1 s - d 8 s else 0) + (if P2 s = true then b2 s - d 8 s else 0)) : wS d b P = wS d b1 P1 + wS d b2 P2 := by
  have h0 := h 0 (by decide)
  have h1 := h 1 (by decide)
  have h2 := h 2 (by decide)
  have h3 := h 3 (by decide)
  rw [wS_eq, wS_eq, wS_eq]
  omega
theorem wS_le {d : Nat → Nat → Nat} {b b1 : Nat → Nat} {P P1 : Nat → Bool} (h : ∀ s, s < 4 → (if P s = true then b s - d 8 s else 0) ≤ (if P1 s = true then b1 s - d 8 s else 0)) : wS d b P ≤ wS d b1 P1 := by
  have h0 := h 0 (by decide)
  have h1 := h 1 (by decide)
  have h2 := h 2 (by decide)
  have h3 := h 3 (by decide)
  rw [wS_eq, wS_eq]
  omega
theorem wS_bd {d : Nat → Nat → Nat} {b : Nat → Nat} {P : Nat → Bool} (h : ∀ s, s < 4 → P s = true → b s ≤ 20000) : wS d b P ≤ 80000 := by
  have H : ∀ s, s < 4 → (if P s = true then b s - d 8 s else 0) ≤ 20000 := fun s hs => by
    split
    · have := h s hs (by assumption)
      omega
    · omega
  have h0 := H 0 (by decide)
  have h1 := H 1 (by decide)
  have h2 := H 2 (by decide)
  have h3 := H 3 (by decide)
  rw [wS_eq]
  omega
def kF (e : Nat → Nat) : Nat → Nat → Nat → Nat
  | _, 0, acc => acc
  | s, r + 1, acc => kF e (s + 1) r (acc * 40000 + e s)
theorem kF_lt {e e' : Nat → Nat} {N : Nat} (h : ∀ s, s < N → e s < 40000) (h' : ∀ s, s < N → e' s < 40000) : ∀ r s acc acc', s + r = N → acc < acc' → kF e s r acc < kF e' s r acc' := by
  intro r
  induction r with
  | zero => intro s acc acc' _ h9; exact h9
  | succ r ih =>
    intro s acc acc' hs h9
    have := h s (by omega)
    exact ih (s + 1) _ _ (by omega) (by omega)
theorem kF_congr {e e' : Nat → Nat} {N : Nat} (h : ∀ s, s < N → e s = e' s) : ∀ r s acc, s + r = N → kF e s r acc = kF e' s r acc := by
  intro r
  induction r with
  | zero => intro s acc _; rfl
  | succ r ih =>
    intro s acc hs
    show kF e (s + 1) r (acc * 40000 + e s) = kF e' (s + 1) r (acc * 40000 + e' s)
    rw [h s (by omega), ih _ _ (by omega)]
theorem kF_inj {e e' : Nat → Nat} {N : Nat} (h : ∀ s, s < N → e s < 40000) (h' : ∀ s, s < N → e' s < 40000) : ∀ r s acc acc', s + r = N → kF e s r acc = kF e' s r acc' → acc = acc' ∧ ∀ u, s ≤ u → u < N → e u = e' u := by
  intro r
  induction r with
  | zero => intro s acc acc' hs h9; exact ⟨h9, fun u h1 h2 => by omega⟩
  | succ r ih =>
    intro s acc acc' hs h9
    have q := h s (by omega)
    have q' := h' s (by omega)
    obtain ⟨h1, h2⟩ := ih (s + 1) _ _ (by omega) h9
    refine ⟨by omega, fun u h3 h4 => ?_⟩
    rcases Nat.eq_or_lt_of_le h3 with rfl | h3
    · omega
    · exact h2 u h3 h4
/-- a plan: every ship has a run (4 * chamber + run) -/
def Vld (nC nS nP g o : Nat) (d : Nat → Nat → Nat) (a : Nat → Nat) : Prop := (∀ s, s < nS → a s < 4 * nC) ∧ (∀ q, q < 4 * nC → setA nS a q ≠ 0 → oneW d (setA nS a q) ∧ pFits d g (q / 4) (setA nS a q)) ∧ (∀ s, s < nS → ∀ k, k < a s % 4 → ∃ t, t < nS ∧ a t = 4 * (a s / 4) + k) ∧ (∀ s, s < nS → ovF d (bA d nP nS a) s 0 nS 0 ≤ o)
def wA (d : Nat → Nat → Nat) (nP nS : Nat) (a : Nat → Nat) : Nat := wS d (bA d nP nS a) (fun s => decide (s < nS))
def eA (d : Nat → Nat → Nat) (nP nS : Nat) (a : Nat → Nat) (s : Nat) : Nat := 2 * bA d nP nS a s + a s / 4
def kA (d : Nat → Nat → Nat) (nP nS : Nat) (a : Nat → Nat) : Nat := kF (eA d nP nS a) 0 nS (wA d nP nS a)
section KY
variable {nC nS nP g o : Nat} {d : Nat → Nat → Nat}
theorem bA_bd (hA : AbOk nC nS nP g o d) {a : Nat → Nat} {s : Nat} (hs : s < nS) (ha : a s < 4 * nC) : d 8 s ≤ bA d nP nS a s ∧ bA d nP nS a s < 19000 := by
  have hn := hA.2.1
  have hc : a s / 4 < nC := by omega
  have e : 4 * (a s / 4) + a s % 4 = a s := by omega
  constructor
  · refine bgS_mem (by omega) ?_
    rw [e]
    exact (setA_bit hn _ _).mpr ⟨hs, rfl⟩
  · have h1 := cst_bd hA hc (S := setA nS a) (fun q => setA_pow hn q) (a s % 4)
    have h2 := bgS_le hA (c := a s / 4) (set := setA nS a (4 * (a s / 4) + a s % 4)) (fl := cst d nP (setA nS a) (a s / 4) (a s % 4)) (M := 10000 + 120 * (a s % 4) + 60) hc (setA_pow hn _) (by omega) (by omega)
    have : bA d nP nS a s ≤ 10000 + 120 * (a s % 4) + 60 := h2
    omega
theorem eA_bd (hA : AbOk nC nS nP g o d) {a : Nat → Nat} (ha : ∀ s, s < nS → a s < 4 * nC) : ∀ s, s < nS → eA d nP nS a s < 40000 := by
  intro s hs
  have := (bA_bd hA hs (ha s hs)).2
  have := ha s hs
  have := hA.1
  unfold eA
  omega
theorem wA_bd (hA : AbOk nC nS nP g o d) {a : Nat → Nat} (ha : ∀ s, s < nS → a s < 4 * nC) : wA d nP nS a ≤ 80000 := by
  refine wS_bd (fun s _ h => ?_)
  have hs : s < nS := of_decide_eq_true h
  have := (bA_bd hA hs (ha s hs)).2
  omega
theorem bA_lt (hA : AbOk nC nS nP g o d) {a : Nat → Nat} {s t : Nat} (hs : s < nS) (ht : t < nS) (has : a s < 4 * nC) (he : a s / 4 = a t / 4) (h : a s < a t) : bA d nP nS a s < bA d nP nS a t := by
  have hn := hA.2.1
  have hc : a s / 4 < nC := by omega
  have dC := hA.2.2.2.2.2.1 _ hc
  unfold bA
  rw [← he]
  refine bgn_lt ?_ (by omega) (by omega)
  rw [show 4 * (a s / 4) + a s % 4 = a s by omega]
  exact (setA_ne hn _).mpr ⟨s, hs, rfl⟩
theorem bA_eq {a : Nat → Nat} {s t : Nat} (h : a s = a t) : bA d nP nS a s = bA d nP nS a t := by
  unfold bA
  rw [h]
theorem run_le (hA : AbOk nC nS nP g o d) {a a' : Nat → Nat} (hV : Vld nC nS nP g o d a) (hV' : Vld nC nS nP g o d a') (hb : ∀ s, s < nS → bA d nP nS a s = bA d nP nS a' s) (hc : ∀ s, s < nS → a s / 4 = a' s / 4) : ∀ n s, s < nS → a s % 4 = n → n ≤ a' s % 4 := by
  intro n
  induction n with
  | zero => intro s _ _; exact Nat.zero_le _
  | succ m ih =>
    intro s hs h
    obtain ⟨t, ht, he⟩ := hV.2.2.1 s hs m (by omega)
    have h1 := ih t ht (by omega)
    have h2 : bA d nP nS a t < bA d nP nS a s := bA_lt hA ht hs (hV.1 t ht) (by omega) (by omega)
    rw [hb t ht, hb s hs] at h2
    have e1 := hc s hs
    have e2 := hc t ht
    rcases Nat.lt_trichotomy (a' t) (a' s) with h3 | h3 | h3
    · omega
    · have := bA_eq (d := d) (nP := nP) (nS := nS) h3
      omega
    · have := bA_lt hA hs ht (hV'.1 s hs) (by omega) h3
      omega
/-- the key tells the plan -/
theorem kA_inj (hA : AbOk nC nS nP g o d) {a a' : Nat → Nat} (hV : Vld nC nS nP g o d a) (hV' : Vld nC nS nP g o d a') (h : kA d nP nS a = kA d nP nS a') : wA d nP nS a = wA d nP nS a' ∧ ∀ s, s < nS → a s = a' s ∧ bA d nP nS a s = bA d nP nS a' s := by
  obtain ⟨h1, h2⟩ := kF_inj (eA_bd hA hV.1) (eA_bd hA hV'.1) nS 0 _ _ (by omega) h
  have h3 : ∀ s, s < nS → bA d nP nS a s = bA d nP nS a' s ∧ a s / 4 = a' s / 4 := fun s hs => by
    have h4 := h2 s (Nat.zero_le _) hs
    have h5 := hV.1 s hs
    have h6 := hV'.1 s hs
    have h7 := hA.1
    unfold eA at h4
    omega
  refine ⟨h1, fun s hs => ⟨?_, (h3 s hs).1⟩⟩
  have r1 := run_le hA hV hV' (fun s hs => (h3 s hs).1) (fun s hs => (h3 s hs).2) _ s hs rfl
  have r2 := run_le hA hV' hV (fun s hs => (h3 s hs).1.symm) (fun s hs => (h3 s hs).2.symm) _ s hs rfl
  have := (h3 s hs).2
  omega
theorem bA_congr {a a' : Nat → Nat} (h : ∀ s, s < nS → a s = a' s) : setA nS a = setA nS a' ∧ ∀ s, s < nS → bA d nP nS a s = bA d nP nS a' s := by
  have e : setA nS a = setA nS a' := by
    funext q
    exact setA_congr (fun s hs => by rw [h s hs])
  refine ⟨e, fun s hs => ?_⟩
  unfold bA
  rw [e, h s hs]
theorem wA_congr (hn : nS ≤ 4) {a a' : Nat → Nat} (h : ∀ s, s < nS → a s = a' s) : wA d nP nS a = wA d nP nS a' := by
  have hb := (bA_congr (d := d) (nP := nP) h).2
  unfold wA
  have H : ∀ s, s < 4 → (if decide (s < nS) = true then bA d nP nS a s - d 8 s else 0) = (if decide (s < nS) = true then bA d nP nS a' s - d 8 s else 0) := fun s _ => by
    by_cases hs : s < nS
    · rw [hb s hs]
    · simp [hs]
  exact Nat.le_antisymm (wS_le (fun s hs => Nat.le_of_eq (H s hs))) (wS_le (fun s hs => Nat.le_of_eq (H s hs).symm))
theorem kA_congr (hn : nS ≤ 4) {a a' : Nat → Nat} (h : ∀ s, s < nS → a s = a' s) : kA d nP nS a = kA d nP nS a' := by
  unfold kA
  rw [wA_congr hn h]
  refine kF_congr (N := nS) (fun s hs => ?_) nS 0 _ (by omega)
  unfold eA
  rw [(bA_congr (d := d) (nP := nP) h).2 s hs, h s hs]
theorem Vld_congr {a a' : Nat → Nat} (h : ∀ s, s < nS → a s = a' s) (hV : Vld nC nS nP g o d a) : Vld nC nS nP g o d a' := by
  obtain ⟨e, hb⟩ := bA_congr (d := d) (nP := nP) h
  refine ⟨fun s hs => by rw [← h s hs]; exact hV.1 s hs, ?_, fun s hs k hk => ?_, fun s hs => ?_⟩
  · rw [← e]; exact hV.2.1
  · rw [← h s hs] at hk ⊢
    obtain ⟨t, ht, he⟩ := hV.2.2.1 s hs k hk
    exact ⟨t, ht, by rw [← h t ht]; exact he⟩
  · rw [← ovF_congr (hb s hs) nS 0 0 (by omega) hb]
    exact hV.2.2.2 s hs
end KY
