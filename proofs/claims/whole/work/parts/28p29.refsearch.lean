/-! the reference's search -/
section RS
variable {nC nS nP g o pl : Nat} {d : Nat → Nat → Nat}
theorem ahM_from (hA : AbOk nC nS nP g o d) {v : St} (hM : RM nC nS nP g o d pl v) {b b' a a' : Nat → Nat} (hb : ∀ s, s < nS → v.2 14 s = nI (b s) ∧ b s < 19000) (hb' : ∀ s, s < nS → v.2 16 s = nI (b' s) ∧ b' s < 19000) (ha : ∀ s, s < nS → v.2 13 s = nI (a s) ∧ a s < 8) (ha' : ∀ s, s < nS → v.2 15 s = nI (a' s) ∧ a' s < 8) : ∀ r s, s + r = nS → ∀ acc n, f_Mo_isAhead_2 (n + r + 1) (nI s) v = some (if kF (fun s => 2 * b s + a s / 4) s r acc < kF (fun s => 2 * b' s + a' s / 4) s r acc then 1 else 0, v) := by
  have hn := hA.2.1
  have bd : ∀ s, s < nS → (fun s => 2 * b s + a s / 4) s < 40000 := fun s hs => by have := (hb s hs).2; have := (ha s hs).2; show 2 * b s + a s / 4 < 40000; omega
  have bd' : ∀ s, s < nS → (fun s => 2 * b' s + a' s / 4) s < 40000 := fun s hs => by have := (hb' s hs).2; have := (ha' s hs).2; show 2 * b' s + a' s / 4 < 40000; omega
  intro r
  induction r with
  | zero =>
    intro s hs acc n
    have hs : s = nS := by omega
    subst hs
    rw [if_neg (show ¬ kF (fun s => 2 * b s + a s / 4) s 0 acc < kF (fun s => 2 * b' s + a' s / 4) s 0 acc from Nat.lt_irrefl acc)]
    show b_Mo_isAhead_2 (f_Mo_isAhead_2 n) (nI s) v = _
    unfold b_Mo_isAhead_2
    rw [hM.2.1, if_pos (nI_le (Nat.le_refl _) (by omega))]
  | succ r ih =>
    intro s hs acc n
    have hsn : s < nS := by omega
    have e : f_Mo_isAhead_2 (n + (r + 1) + 1) (nI s) v = b_Mo_isAhead_2 (f_Mo_isAhead_2 (n + r + 1)) (nI s) v := rfl
    obtain ⟨b1, b2⟩ := hb s hsn
    obtain ⟨b3, b4⟩ := hb' s hsn
    obtain ⟨c1, c2⟩ := ha s hsn
    obtain ⟨c3, c4⟩ := ha' s hsn
    rw [e]
    unfold b_Mo_isAhead_2
    rw [hM.2.1, if_neg (nI_ge hsn (by omega))]
    have q1 : nI (a s) / 4 = nI (a s / 4) := by rw [z4, qdiv (by omega) (by decide) (by decide)]
    have q2 : nI (a' s) / 4 = nI (a' s / 4) := by rw [z4, qdiv (by omega) (by decide) (by decide)]
    simp only [xi (show s < 4 by omega) (by decide), qcl (show s < 2 ^ 31 by omega), b1, b3, c1, c3, q1, q2, nI_1]
    have k1 : kF (fun s => 2 * b s + a s / 4) s (r + 1) acc = kF (fun s => 2 * b s + a s / 4) (s + 1) r (acc * 40000 + (2 * b s + a s / 4)) := rfl
    have k2 : kF (fun s => 2 * b' s + a' s / 4) s (r + 1) acc = kF (fun s => 2 * b' s + a' s / 4) (s + 1) r (acc * 40000 + (2 * b' s + a' s / 4)) := rfl
    rw [k1, k2]
    by_cases h1 : b s = b' s
    · rw [if_pos (show nI (b s) = nI (b' s) by rw [h1])]
      by_cases h2 : a s / 4 = a' s / 4
      · rw [if_pos (show nI (a s / 4) = nI (a' s / 4) by rw [h2]), ih (s + 1) (by omega) (acc * 40000 + (2 * b s + a s / 4)) n, h1, h2]
      · rw [if_neg (show ¬ nI (a s / 4) = nI (a' s / 4) from fun h => h2 ((nI_eq (by omega) (by omega)).mp h))]
        rcases Nat.lt_or_ge (a s) (a' s) with h3 | h3
        · rw [if_neg (nI_ge h3 (by omega)), if_pos (kF_lt bd bd' r (s + 1) _ _ (by omega) (by omega))]
        · rw [if_pos (nI_le h3 (by omega)), if_neg (Nat.lt_asymm (kF_lt bd' bd r (s + 1) _ _ (by omega) (by omega)))]
    · rw [if_neg (show ¬ nI (b s) = nI (b' s) from fun h => h1 ((nI_eq (by omega) (by omega)).mp h))]
      rcases Nat.lt_or_ge (b s) (b' s) with h3 | h3
      · rw [if_neg (nI_ge h3 (by omega)), if_pos (kF_lt bd bd' r (s + 1) _ _ (by omega) (by omega))]
      · rw [if_pos (nI_le h3 (by omega)), if_neg (Nat.lt_asymm (kF_lt bd' bd r (s + 1) _ _ (by omega) (by omega)))]
theorem ahM_eq (hA : AbOk nC nS nP g o d) {v : St} (hM : RM nC nS nP g o d pl v) {b b' a a' : Nat → Nat} (hb : ∀ s, s < nS → v.2 14 s = nI (b s) ∧ b s < 19000) (hb' : ∀ s, s < nS → v.2 16 s = nI (b' s) ∧ b' s < 19000) (ha : ∀ s, s < nS → v.2 13 s = nI (a s) ∧ a s < 8) (ha' : ∀ s, s < nS → v.2 15 s = nI (a' s) ∧ a' s < 8) (acc : Nat) : f_Mo_isAhead v = some (if kF (fun s => 2 * b s + a s / 4) 0 nS acc < kF (fun s => 2 * b' s + a' s / 4) 0 nS acc then 1 else 0, v) := by
  have hn := hA.2.1
  have h := ahM_from hA hM hb hb' ha ha' nS 0 (by omega) acc (39 - nS)
  rw [show 39 - nS + nS + 1 = 40 by omega] at h
  exact h
def KpF (v v' : St) : Prop := v'.1 = v.1 ∧ ∀ k, k ≠ 11 → k ≠ 12 → v'.2 k = v.2 k
theorem fitM_from (hA : AbOk nC nS nP g o d) : ∀ r k, k + r = 32 → ∀ v, RM nC nS nP g o d pl v → (∀ c set, c < nC → set < 2 ^ nS → 16 * c + set < k → Ans (pFits d g c set) (v.2 12 (16 * c + set))) → ∀ n, ∃ v', KpF v v' ∧ FitT nC nS g d v' ∧ f_Mo_search_2 (n + r + 1) (nI k) v = f_Mo_search_71 40 1000000000 1 0 v' := by
  have hn := hA.2.1
  have h16 := pw_le hn
  have hC2 := hA.1
  intro r
  induction r with
  | zero =>
    intro k hk v hM hF n
    have hk : k = 32 := by omega
    subst hk
    refine ⟨v, ⟨rfl, fun _ _ _ => rfl⟩, fun c set h1 h2 => hF c set h1 h2 (by omega), ?_⟩
    show b_Mo_search_2 (f_Mo_search_2 n) (nI 32) v = _
    unfold b_Mo_search_2
    rw [if_pos (show (32 : Int32) ≤ nI 32 by decide)]
  | succ r ih =>
    intro k hk v hM hF n
    have hk32 : k < 32 := by omega
    have e : f_Mo_search_2 (n + (r + 1) + 1) (nI k) v = b_Mo_search_2 (f_Mo_search_2 (n + r + 1)) (nI k) v := rfl
    have fin : ∀ (v1 : St) (x : Int32), KpF v v1 → (∀ i, v1.2 12 i = v.2 12 i) → (k / 16 < nC → k % 16 < 2 ^ nS → Ans (pFits d g (k / 16) (k % 16)) x) → ∃ v', KpF v v' ∧ FitT nC nS g d v' ∧ f_Mo_search_2 (n + r + 1) (nI (k + 1)) (sA v1 12 k x) = f_Mo_search_71 40 1000000000 1 0 v' := by
      intro v1 x h1 h2 h3
      have hk1 : KpF v (sA v1 12 k x) := ⟨h1.1, fun j p q => by
        rw [← h1.2 j p q]
        funext i
        rw [sA_at, if_neg q]⟩
      obtain ⟨v', j1, j2, j3⟩ := ih (k + 1) (by omega) (sA v1 12 k x) (RM_of hM hk1.1 (fun j hj => hk1.2 j (by omega) (by omega))) (fun c set p1 p2 p3 => by
        rw [sA_at, if_pos rfl]
        by_cases hq : 16 * c + set = k
        · rw [if_pos hq]
          have hc9 : c = k / 16 := by omega
          have hs9 : set = k % 16 := by omega
          rw [hc9, hs9]
          rw [hc9] at p1
          rw [hs9] at p2
          exact h3 p1 p2
        · rw [if_neg hq, h2]
          exact hF c set p1 p2 (by omega)) n
      exact ⟨v', ⟨j1.1.trans hk1.1, fun j p q => (j1.2 j p q).trans (hk1.2 j p q)⟩, j2, j3⟩
    have n0 : vp_nar .boolean 0 = 0 := by decide
    have n1 : vp_nar .boolean 1 = 1 := by decide
    have e56 : ∀ v1, f_Mo_search_56 (f_Mo_search_2 (n + r + 1)) (nI k) (nI k) v1 = f_Mo_search_2 (n + r + 1) (nI (k + 1)) (sA v1 12 k 0) := fun v1 => by
      unfold f_Mo_search_56 f_Mo_search_57
      rw [xi hk32 (by decide), xl, qcl (by omega), n0, nI_1]
    have e57 : ∀ v1, f_Mo_search_57 (f_Mo_search_2 (n + r + 1)) (nI k) 1 (nI k) v1 = f_Mo_search_2 (n + r + 1) (nI (k + 1)) (sA v1 12 k 1) := fun v1 => by
      unfold f_Mo_search_57
      rw [xi hk32 (by decide), xl, qcl (by omega), n1, nI_1]
    have d1 : nI k / 16 = nI (k / 16) := by rw [z16, qdiv (by omega) (by decide) (by decide)]
    have d2 : nI k - nI (k / 16) * 16 = nI (k % 16) := by
      have := qrem (a := k) (b := 16) (by omega) (by decide) (by decide)
      rw [← z16, d1] at this
      exact this
    rw [e]
    unfold b_Mo_search_2
    rw [if_neg (show ¬ (32 : Int32) ≤ nI k from nI_ge (b := 32) hk32 (by decide)), hM.1, hM.2.1, d1, d2, q_bit (by omega), e56]
    by_cases h1 : k / 16 < nC
    · rw [if_neg (nI_ge h1 (by omega))]
      by_cases h2 : k % 16 < 2 ^ nS
      · rw [if_neg (nI_ge h2 (by omega))]
        obtain ⟨x, v1, l1, l2, l3⟩ := lay_ref hA h1 h2 hM
        rw [l1, Option.bind_some]
        dsimp only
        have hkf : KpF v v1 := ⟨l2.1, fun j p _ => l2.2.1 j p⟩
        have h12 : ∀ i, v1.2 12 i = v.2 12 i := fun i => by rw [l2.2.1 12 (by decide)]
        rcases l3 with ⟨rfl, at9, f1, -⟩ | ⟨rfl, f1⟩
        · rw [if_neg one_ne, e57]
          exact fin v1 1 hkf h12 (fun _ _ => Or.inl ⟨rfl, (fits_iff hA h1 h2).mpr ⟨at9, f1.1⟩⟩)
        · rw [if_pos rfl, e56]
          exact fin v1 0 hkf h12 (fun _ _ => Or.inr ⟨rfl, fun h => by
            obtain ⟨at9, h9⟩ := (fits_iff hA h1 h2).mp h
            exact f1 at9 h9⟩)
      · rw [if_pos (nI_le (by omega) (by omega))]
        exact fin v 0 ⟨rfl, fun _ _ _ => rfl⟩ (fun _ => rfl) (fun _ h => absurd h h2)
    · rw [if_pos (nI_le (by omega) (by omega))]
      exact fin v 0 ⟨rfl, fun _ _ _ => rfl⟩ (fun _ => rfl) (fun h => absurd h h1)
theorem allM_from (hA : AbOk nC nS nP g o d) {v : St} (hM : RM nC nS nP g o d pl v) (x1 : Int32) : ∀ r s, s + r = nS → ∀ N n, f_Mo_search_71 (n + r + 1) x1 (nI N) (nI s) v = f_Mo_search_96 5000 x1 (nI (N * (4 * nC) ^ r)) 0 v := by
  have hn := hA.2.1
  intro r
  induction r with
  | zero =>
    intro s hs N n
    have hs : s = nS := by omega
    subst hs
    show b_Mo_search_71 (f_Mo_search_71 n) x1 (nI N) (nI s) v = _
    unfold b_Mo_search_71
    rw [hM.2.1, if_pos (nI_le (Nat.le_refl _) (by omega)), Nat.pow_zero, Nat.mul_one]
  | succ r ih =>
    intro s hs N n
    have e : f_Mo_search_71 (n + (r + 1) + 1) x1 (nI N) (nI s) v = b_Mo_search_71 (f_Mo_search_71 (n + r + 1)) x1 (nI N) (nI s) v := rfl
    rw [e]
    unfold b_Mo_search_71
    rw [hM.2.1, if_neg (nI_ge (by omega) (by omega)), xl, hM.1, z4, pk_mul, pk_mul, nI_1, ih (s + 1) (by omega) (N * (4 * nC)) n, Nat.mul_assoc, Nat.pow_succ, Nat.mul_comm (4 * nC) ((4 * nC) ^ r)]
/-- the digits of a number, the last ship's last -/
def dig (B : Nat) : Nat → Nat → Nat → Nat
  | 0, _, _ => 0
  | r + 1, w, s => if s = r then w % B else dig B r (w / B) s
theorem dig_lt {B : Nat} (hB : 0 < B) : ∀ r w s, s < r → dig B r w s < B := by
  intro r
  induction r with
  | zero => intro w s h; omega
  | succ r ih =>
    intro w s h
    show (if s = r then w % B else dig B r (w / B) s) < B
    by_cases h9 : s = r
    · rw [if_pos h9]
      exact Nat.mod_lt _ hB
    · rw [if_neg h9]
      exact ih _ _ (by omega)
theorem dig_all {B : Nat} (hB : 0 < B) (a : Nat → Nat) : ∀ r, (∀ s, s < r → a s < B) → ∃ w, w < B ^ r ∧ ∀ s, s < r → a s = dig B r w s := by
  intro r
  induction r with
  | zero => intro _; exact ⟨0, by rw [Nat.pow_zero]; decide, fun s h => by omega⟩
  | succ r ih =>
    intro h
    obtain ⟨w, h1, h2⟩ := ih (fun s hs => h s (by omega))
    have h3 := h r (by omega)
    have e1 : (w * B + a r) / B = w := by
      rw [Nat.mul_comm, Nat.mul_add_div hB, Nat.div_eq_of_lt h3, Nat.add_zero]
    have e2 : (w * B + a r) % B = a r := by
      rw [Nat.mul_comm, Nat.mul_add_mod, Nat.mod_eq_of_lt h3]
    refine ⟨w * B + a r, ?_, fun s hs => ?_⟩
    · rw [Nat.pow_succ]
      have : (w + 1) * B ≤ B ^ r * B := Nat.mul_le_mul_right B h1
      rw [Nat.add_mul, Nat.one_mul] at this
      omega
    · show a s = if s = r then (w * B + a r) % B else dig B r ((w * B + a r) / B) s
      by_cases h9 : s = r
      · rw [if_pos h9, e2, h9]
      · rw [if_neg h9, e1]
        exact h2 s (by omega)
def srTail (K96 : Int32 → Int32 → Int32 → St → Option (Int32 × St)) (x1 x2 x3 : Int32) (st : St) : Option (Int32 × St) := (f_Mo_weighed st).bind (fun o2 => (if x1 < o2.1 then f_Mo_search_234 K96 x1 x2 x3 o2.2 else (if o2.1 = 1000000000 then f_Mo_search_234 K96 x1 x2 x3 o2.2 else (if o2.1 = x1 then (f_Mo_isAhead o2.2).bind (fun o9 => (if o9.1 = 0 then f_Mo_search_234 K96 x1 x2 x3 o9.2 else f_Mo_search_185 K96 x2 x3 o2.1 o9.2)) else f_Mo_search_185 K96 x2 x3 o2.1 o2.2))))
theorem mI_succ (r : Nat) : nI (r + 1) - 1 = nI r := by
  rw [z1, pk_sub (by omega)]
  rfl
theorem mI_add (r : Nat) : nI r + (-1) = nI r - 1 := by
  cases r with
  | zero => decide
  | succ r => rw [mI_succ, pk_m1]
theorem dec_from (hA : AbOk nC nS nP g o d) (hC : 0 < nC) (K96 : Int32 → Int32 → Int32 → St → Option (Int32 × St)) (x1 x2 x3 : Int32) : ∀ r, r ≤ nS → ∀ w, w < 2 ^ 31 → ∀ v, v.1 1 = nI nC → ∀ n, ∃ v', v'.1 = v.1 ∧ (∀ k, k ≠ 13 → v'.2 k = v.2 k) ∧ (∀ s, s < r → v'.2 13 s = nI (dig (4 * nC) r w s)) ∧ (∀ s, r ≤ s → v'.2 13 s = v.2 13 s) ∧ f_Mo_search_112 K96 (n + r + 1) x1 x2 x3 (nI w) (nI r - 1) v = srTail K96 x1 x2 x3 v' := by
  have hn := hA.2.1
  have hC2 := hA.1
  intro r
  induction r with
  | zero =>
    intro _ w hw v h1 n
    refine ⟨v, rfl, fun _ _ => rfl, fun s hs => by omega, fun _ _ => rfl, ?_⟩
    show b_Mo_search_112 K96 (f_Mo_search_112 K96 n) _ _ _ _ _ v = _
    unfold b_Mo_search_112
    rw [if_pos (show nI 0 - 1 < 0 by decide)]
    rfl
  | succ r ih =>
    intro hr w hw v h1 n
    have e : f_Mo_search_112 K96 (n + (r + 1) + 1) x1 x2 x3 (nI w) (nI (r + 1) - 1) v = b_Mo_search_112 K96 (f_Mo_search_112 K96 (n + r + 1)) x1 x2 x3 (nI w) (nI (r + 1) - 1) v := rfl
    have hB : ¬ nI (4 * nC) = 0 := fun h => by have := (nI_eq (b := 0) (by omega) (by omega)).mp h; omega
    obtain ⟨v', j1, j2, j3, j4, j5⟩ := ih (by omega) (w / (4 * nC)) (Nat.lt_of_le_of_lt (Nat.div_le_self _ _) hw) (sA v 13 r (nI (w % (4 * nC)))) h1 n
    refine ⟨v', j1, fun k hk => ?_, fun s hs => ?_, fun s hs => ?_, ?_⟩
    · rw [j2 k hk]
      funext i
      rw [sA_at, if_neg hk]
    · show v'.2 13 s = nI (if s = r then w % (4 * nC) else dig (4 * nC) r (w / (4 * nC)) s)
      by_cases h9 : s = r
      · rw [if_pos h9, h9, j4 r (Nat.le_refl _), sA_at, if_pos rfl, if_pos rfl]
      · rw [if_neg h9]
        exact j3 s (by omega)
    · rw [j4 s (by omega), sA_at, if_pos rfl, if_neg (by omega)]
    · rw [e, mI_succ]
      unfold b_Mo_search_112
      rw [if_neg (nI_pos (by omega)), h1, z4, pk_mul, if_pos hB, xi (show r < 4 by omega) (by decide), xl, qcl (by omega), qrem hw (by omega) (by omega)]
      rw [show (sA v 13 r (nI (w % (4 * nC)))).1 1 = nI nC from h1, pk_mul, if_pos hB, xl, qdiv hw (by omega) (by omega), mI_add]
      exact j5
theorem cpM_from (hA : AbOk nC nS nP g o d) (K96 : Int32 → Int32 → Int32 → St → Option (Int32 × St)) (x1 x2 x3 : Int32) : ∀ r s, s + r = nS → ∀ v, RM nC nS nP g o d pl v → ∀ n, ∃ v', v'.1 = v.1 ∧ (∀ k, k ≠ 15 → k ≠ 16 → v'.2 k = v.2 k) ∧ (∀ t, s ≤ t → t < nS → v'.2 15 t = v.2 13 t ∧ v'.2 16 t = v.2 14 t) ∧ (∀ t, t < s → v'.2 15 t = v.2 15 t ∧ v'.2 16 t = v.2 16 t) ∧ f_Mo_search_191 K96 (n + r + 1) x1 x2 x3 (nI s) v = K96 x1 x2 (x3 + 1) v' := by
  have hn := hA.2.1
  intro r
  induction r with
  | zero =>
    intro s hs v hM n
    have hs : s = nS := by omega
    subst hs
    refine ⟨v, rfl, fun _ _ _ => rfl, fun t h1 h2 => by omega, fun _ _ => ⟨rfl, rfl⟩, ?_⟩
    show b_Mo_search_191 K96 (f_Mo_search_191 K96 n) _ _ _ (nI s) v = _
    unfold b_Mo_search_191
    rw [hM.2.1, if_pos (nI_le (Nat.le_refl _) (by omega))]
    rfl
  | succ r ih =>
    intro s hs v hM n
    have e : f_Mo_search_191 K96 (n + (r + 1) + 1) x1 x2 x3 (nI s) v = b_Mo_search_191 K96 (f_Mo_search_191 K96 (n + r + 1)) x1 x2 x3 (nI s) v := rfl
    have hk : ∀ k, k ≠ 15 → k ≠ 16 → (sA (sA v 15 s (v.2 13 s)) 16 s ((sA v 15 s (v.2 13 s)).2 14 s)).2 k = v.2 k := fun k p q => by
      funext i
      rw [sA_at, if_neg q, sA_at, if_neg p]
    obtain ⟨v', j1, j2, j3, j4, j5⟩ := ih (s + 1) (by omega) (sA (sA v 15 s (v.2 13 s)) 16 s ((sA v 15 s (v.2 13 s)).2 14 s)) (RM_of hM rfl (fun k hk9 => hk k (by omega) (by omega))) n
    refine ⟨v', j1, fun k p q => (j2 k p q).trans (hk k p q), fun t h1 h2 => ?_, fun t h1 => ?_, ?_⟩
    · rcases Nat.eq_or_lt_of_le h1 with rfl | h1
      · obtain ⟨q1, q2⟩ := j4 s (by omega)
        rw [q1, q2]
        simp only [sA_at]
        exact ⟨rfl, rfl⟩
      · obtain ⟨q1, q2⟩ := j3 t h1 h2
        rw [q1, q2, hk 13 (by decide) (by decide), hk 14 (by decide) (by decide)]
        exact ⟨rfl, rfl⟩
    · obtain ⟨q1, q2⟩ := j4 t (by omega)
      rw [q1, q2]
      simp only [sA_at, if_neg (show t ≠ s by omega)]
      exact ⟨rfl, rfl⟩
    · rw [e]
      unfold b_Mo_search_191
      rw [hM.2.1, if_neg (nI_ge (by omega) (by omega))]
      simp only [xi (show s < 4 by omega) (by decide), qcl (show s < 2 ^ 31 by omega), xl, nI_1]
      exact j5
def BstM (nC nS nP g o : Nat) (d : Nat → Nat → Nat) (X : (Nat → Nat) → Prop) (L : Nat) (v : St) : Prop := (L = 1000000000 ∧ ∀ a, X a → ¬ Vld nC nS nP g o d a) ∨ (∃ a, Vld nC nS nP g o d a ∧ L = wA d nP nS a ∧ (∀ s, s < nS → v.2 15 s = nI (a s) ∧ v.2 16 s = nI (bA d nP nS a s)) ∧ ∀ a', X a' → Vld nC nS nP g o d a' → kA d nP nS a ≤ kA d nP nS a')
def KpS (v v' : St) : Prop := v'.1 = v.1 ∧ ∀ k, k ≤ 10 ∨ k = 12 → v'.2 k = v.2 k
theorem tail_eq (hA : AbOk nC nS nP g o d) (hC : 0 < nC ∨ nS = 0) {a : Nat → Nat} (ha : ∀ s, s < nS → a s < 4 * nC) {v : St} (hM : RM nC nS nP g o d pl v) (hT : Trd nS a v) (hF : FitT nC nS g d v) {X : (Nat → Nat) → Prop} {L : Nat} (hB : BstM nC nS nP g o d X L v) (K96 : Int32 → Int32 → Int32 → St → Option (Int32 × St)) (x2 : Int32) (t : Nat) : ∃ L' v', KpS v v' ∧ srTail K96 (nI L) x2 (nI t) v = K96 (nI L') x2 (nI (t + 1)) v' ∧ BstM nC nS nP g o d (fun a' => X a' ∨ ∀ s, s < nS → a' s = a s) L' v' := by
  have hn := hA.2.1
  have hC2 := hA.1
  obtain ⟨v1, k1, k2⟩ := weighed_eq hA ha hM hT hF
  have hkw : KpS v v1 := ⟨k1.1, fun k hk => k1.2 k (by omega) (by omega)⟩
  have hL : L ≤ 1000000000 := by
    rcases hB with ⟨h, -⟩ | ⟨b, h1, h2, -⟩
    · omega
    · have := wA_bd hA h1.1
      omega
  have h1516 : v1.2 15 = v.2 15 ∧ v1.2 16 = v.2 16 := ⟨k1.2 15 (by decide) (by decide), k1.2 16 (by decide) (by decide)⟩
  have hskip : f_Mo_search_234 K96 (nI L) x2 (nI t) v1 = K96 (nI L) x2 (nI (t + 1)) v1 := by
    unfold f_Mo_search_234
    rw [nI_1]
  unfold srTail
  rcases k2 with ⟨hV, h14, hw⟩ | ⟨hV, hw⟩
  · rw [hw, Option.bind_some]
    dsimp only
    have hwb := wA_bd hA hV.1
    have hM1 := k1.RM hM
    have hT1 : Trd nS a v1 := fun s hs => by rw [k1.2 13 (by decide) (by decide)]; exact hT s hs
    rw [if_neg (show ¬ nI (wA d nP nS a) = 1000000000 from fun h => by have := (nI_eq (b := 1000000000) (by omega) (by omega)).mp h; omega), hskip]
    obtain ⟨v2, c1, c2, c3, -, c5⟩ := cpM_from hA K96 (nI (wA d nP nS a)) x2 (nI t) nS 0 (by omega) v1 hM1 (39 - nS)
    rw [show 39 - nS + nS + 1 = 40 by omega, nI_1] at c5
    have hacc : f_Mo_search_185 K96 x2 (nI t) (nI (wA d nP nS a)) v1 = K96 (nI (wA d nP nS a)) x2 (nI (t + 1)) v2 := c5
    have hks : KpS v v2 := ⟨c1.trans hkw.1, fun k hk => (c2 k (by omega) (by omega)).trans (hkw.2 k hk)⟩
    have htab : ∀ s, s < nS → v2.2 15 s = nI (a s) ∧ v2.2 16 s = nI (bA d nP nS a s) := fun s hs => by
      obtain ⟨q1, q2⟩ := c3 s (Nat.zero_le _) hs
      rw [q1, q2]
      exact ⟨(hT1 s hs).1, h14 s hs⟩
    rw [hacc]
    rcases hB with ⟨hLf, hno⟩ | ⟨b, hVb, hLb, htb, hmin⟩
    · rw [if_neg (show ¬ nI L < nI (wA d nP nS a) from fun h => by have := (nI_ltI (by omega) (by omega)).mp h; omega), if_neg (show ¬ nI (wA d nP nS a) = nI L from fun h => by have := (nI_eq (by omega) (by omega)).mp h; omega)]
      refine ⟨_, v2, hks, rfl, Or.inr ⟨a, hV, rfl, htab, fun a' ha' hV' => ?_⟩⟩
      rcases ha' with ha' | ha'
      · exact absurd hV' (hno a' ha')
      · exact Nat.le_of_eq (kA_congr hn (fun s hs => (ha' s hs).symm))
    · have hstay : kA d nP nS b ≤ kA d nP nS a → BstM nC nS nP g o d (fun a' => X a' ∨ ∀ s, s < nS → a' s = a s) L v1 := fun hle => Or.inr ⟨b, hVb, hLb, fun s hs => by rw [h1516.1, h1516.2]; exact htb s hs, fun a' ha' hV' => by
        rcases ha' with ha' | ha'
        · exact hmin a' ha' hV'
        · rw [← kA_congr hn (fun s hs => (ha' s hs).symm)]
          exact hle⟩
      have htake : kA d nP nS a < kA d nP nS b → BstM nC nS nP g o d (fun a' => X a' ∨ ∀ s, s < nS → a' s = a s) (wA d nP nS a) v2 := fun hlt => Or.inr ⟨a, hV, rfl, htab, fun a' ha' hV' => by
        rcases ha' with ha' | ha'
        · exact Nat.le_of_lt (Nat.lt_of_lt_of_le hlt (hmin a' ha' hV'))
        · exact Nat.le_of_eq (kA_congr hn (fun s hs => (ha' s hs).symm))⟩
      have hk9 : ∀ {a b : Nat → Nat}, Vld nC nS nP g o d a → Vld nC nS nP g o d b → wA d nP nS a < wA d nP nS b → kA d nP nS a < kA d nP nS b := fun {a b} h1 h2 h => kF_lt (eA_bd hA h1.1) (eA_bd hA h2.1) nS 0 _ _ (by omega) h
      rcases Nat.lt_trichotomy L (wA d nP nS a) with h | h | h
      · rw [if_pos (nI_lt h (by omega))]
        exact ⟨L, v1, hkw, rfl, hstay (Nat.le_of_lt (hk9 hVb hV (by omega)))⟩
      · rw [if_neg (show ¬ nI L < nI (wA d nP nS a) from fun h9 => by have := (nI_ltI (by omega) (by omega)).mp h9; omega), if_pos (show nI (wA d nP nS a) = nI L by rw [h])]
        have hq : ∀ {a : Nat → Nat}, Vld nC nS nP g o d a → ∀ s, s < nS → bA d nP nS a s < 19000 ∧ a s < 8 := fun {a} hV s hs => ⟨(bA_bd hA hs (hV.1 s hs)).2, by have := hV.1 s hs; omega⟩
        have hah := ahM_eq hA hM1 (b := bA d nP nS a) (b' := bA d nP nS b) (a := a) (a' := b) (fun s hs => ⟨h14 s hs, (hq hV s hs).1⟩) (fun s hs => ⟨by rw [h1516.2]; exact (htb s hs).2, (hq hVb s hs).1⟩) (fun s hs => ⟨(hT1 s hs).1, (hq hV s hs).2⟩) (fun s hs => ⟨by rw [h1516.1]; exact (htb s hs).1, (hq hVb s hs).2⟩) (wA d nP nS a)
        have hkb : kF (fun s => 2 * bA d nP nS b s + b s / 4) 0 nS (wA d nP nS a) = kA d nP nS b := by
          rw [← h, hLb]
          rfl
        rw [hkb] at hah
        have hah2 : f_Mo_isAhead v1 = some (if kA d nP nS a < kA d nP nS b then 1 else 0, v1) := hah
        rw [hah2, Option.bind_some]
        dsimp only
        by_cases hlt : kA d nP nS a < kA d nP nS b
        · rw [if_pos hlt, if_neg one_ne, hacc]
          exact ⟨_, v2, hks, rfl, htake hlt⟩
        · rw [if_neg hlt, if_pos rfl, hskip]
          exact ⟨L, v1, hkw, rfl, hstay (Nat.le_of_not_lt hlt)⟩
      · rw [if_neg (show ¬ nI L < nI (wA d nP nS a) from fun h9 => by have := (nI_ltI (by omega) (by omega)).mp h9; omega), if_neg (show ¬ nI (wA d nP nS a) = nI L from fun h9 => by have := (nI_eq (by omega) (by omega)).mp h9; omega)]
        exact ⟨_, v2, hks, rfl, htake (hk9 hV hVb (by omega))⟩
  · rw [hw, Option.bind_some]
    dsimp only
    rw [if_pos rfl, hskip, ite_self]
    refine ⟨L, v1, hkw, rfl, ?_⟩
    rcases hB with ⟨hLf, hno⟩ | ⟨b, hVb, hLb, htb, hmin⟩
    · refine Or.inl ⟨hLf, fun a' ha' hV' => ?_⟩
      rcases ha' with ha' | ha'
      · exact hno a' ha' hV'
      · exact hV (Vld_congr ha' hV')
    · refine Or.inr ⟨b, hVb, hLb, fun s hs => by rw [h1516.1, h1516.2]; exact htb s hs, fun a' ha' hV' => ?_⟩
      rcases ha' with ha' | ha'
      · exact hmin a' ha' hV'
      · exact absurd (Vld_congr ha' hV') hV
theorem main_from (hA : AbOk nC nS nP g o d) {N : Nat} (hN : N = (4 * nC) ^ nS) (hN4 : N ≤ 4096) : ∀ m t, t + m = N → ∀ (L : Nat) (v : St), RM nC nS nP g o d pl v → FitT nC nS g d v → BstM nC nS nP g o d (fun a => ∃ t', t' < t ∧ ∀ s, s < nS → a s = dig (4 * nC) nS t' s) L v → ∀ n, ∃ L' v', KpS v v' ∧ f_Mo_search_96 (n + m + 1) (nI L) (nI N) (nI t) v = (if nI L' = 1000000000 then some (-1, v') else some (nI L', v')) ∧ BstM nC nS nP g o d (fun a => ∃ t', t' < N ∧ ∀ s, s < nS → a s = dig (4 * nC) nS t' s) L' v' := by
  have hn := hA.2.1
  have hC2 := hA.1
  intro m
  induction m with
  | zero =>
    intro t ht L v hM hF hB n
    have ht : t = N := by omega
    subst ht
    refine ⟨L, v, ⟨rfl, fun _ _ => rfl⟩, ?_, hB⟩
    show b_Mo_search_96 (f_Mo_search_96 n) _ _ _ v = _
    unfold b_Mo_search_96
    rw [if_pos (nI_le (Nat.le_refl _) (by omega))]
  | succ m ih =>
    intro t ht L v hM hF hB n
    have hC : 0 < nC ∨ nS = 0 := by
      rcases Nat.eq_zero_or_pos nC with h | h
      · rcases Nat.eq_zero_or_pos nS with h9 | h9
        · exact Or.inr h9
        · exfalso
          rw [h, Nat.mul_zero, Nat.zero_pow h9] at hN
          omega
      · exact Or.inl h
    have e : f_Mo_search_96 (n + (m + 1) + 1) (nI L) (nI N) (nI t) v = b_Mo_search_96 (f_Mo_search_96 (n + m + 1)) (nI L) (nI N) (nI t) v := rfl
    have hdec : ∃ v1, v1.1 = v.1 ∧ (∀ k, k ≠ 13 → v1.2 k = v.2 k) ∧ (∀ s, s < nS → v1.2 13 s = nI (dig (4 * nC) nS t s)) ∧ f_Mo_search_96 (n + (m + 1) + 1) (nI L) (nI N) (nI t) v = srTail (f_Mo_search_96 (n + m + 1)) (nI L) (nI N) (nI t) v1 := by
      rw [e]
      unfold b_Mo_search_96
      rw [if_neg (nI_ge (by omega) (by omega)), xl, hM.2.1]
      rcases Nat.eq_zero_or_pos nS with h0 | h0
      · refine ⟨v, rfl, fun _ _ => rfl, fun s hs => by omega, ?_⟩
        rw [h0]
        show b_Mo_search_112 (f_Mo_search_96 (n + m + 1)) _ _ _ _ _ _ v = _
        unfold b_Mo_search_112
        rw [if_pos (show nI 0 - 1 < 0 by decide)]
        rfl
      · obtain ⟨v1, j1, j2, j3, -, j5⟩ := dec_from hA (by omega) (f_Mo_search_96 (n + m + 1)) (nI L) (nI N) (nI t) nS (Nat.le_refl _) t (by omega) v hM.1 (39 - nS)
        rw [show 39 - nS + nS + 1 = 40 by omega] at j5
        exact ⟨v1, j1, j2, j3, j5⟩
    obtain ⟨v1, j1, j2, j3, j5⟩ := hdec
    rw [j5]
    have hd8 : ∀ s, s < nS → dig (4 * nC) nS t s < 4 * nC := fun s hs => dig_lt (by omega) nS t s hs
    have hB1 : BstM nC nS nP g o d (fun a => ∃ t', t' < t ∧ ∀ s, s < nS → a s = dig (4 * nC) nS t' s) L v1 := by
      unfold BstM at hB ⊢
      rw [j2 15 (by decide), j2 16 (by decide)]
      exact hB
    obtain ⟨L2, v2, q1, q2, q3⟩ := tail_eq hA hC hd8 (RM_of hM j1 (fun k hk => j2 k (by omega))) (fun s hs => ⟨j3 s hs, by have := hd8 s hs; omega⟩) (fun c set p1 p2 => by rw [j2 12 (by decide)]; exact hF c set p1 p2) hB1 (f_Mo_search_96 (n + m + 1)) (nI N) t
    have hks : KpS v v2 := ⟨q1.1.trans j1, fun k hk => (q1.2 k hk).trans (j2 k (by omega))⟩
    rw [q2]
    have q4 : BstM nC nS nP g o d (fun a => ∃ t', t' < t + 1 ∧ ∀ s, s < nS → a s = dig (4 * nC) nS t' s) L2 v2 := by
      have hX : ∀ a : Nat → Nat, (∃ t', t' < t + 1 ∧ ∀ s, s < nS → a s = dig (4 * nC) nS t' s) → ((∃ t', t' < t ∧ ∀ s, s < nS → a s = dig (4 * nC) nS t' s) ∨ ∀ s, s < nS → a s = dig (4 * nC) nS t s) := by
        rintro a ⟨t', h1, h2⟩
        rcases Nat.eq_or_lt_of_le (Nat.le_of_lt_succ h1) with rfl | h
        · exact Or.inr h2
        · exact Or.inl ⟨t', h, h2⟩
      rcases q3 with ⟨h1, h2⟩ | ⟨b, h1, h2, h3, h4⟩
      · exact Or.inl ⟨h1, fun a ha => h2 a (hX a ha)⟩
      · exact Or.inr ⟨b, h1, h2, h3, fun a' ha' => h4 a' (hX a' ha')⟩
    obtain ⟨L', v', w1, w2, w3⟩ := ih (t + 1) (by omega) L2 v2 (RM_of hM hks.1 (fun k hk => hks.2 k (Or.inl hk))) (fun c set p1 p2 => by rw [hks.2 12 (Or.inr rfl)]; exact hF c set p1 p2) q4 n
    exact ⟨L', v', ⟨w1.1.trans hks.1, fun k hk => (w1.2 k hk).trans (hks.2 k hk)⟩, w2, w3⟩
theorem searchM_eq (hA : AbOk nC nS nP g o d) {v : St} (hM : RM nC nS nP g o d pl v) : ∃ x v', f_Mo_search v = some (x, v') ∧ v'.1 = v.1 ∧ (∀ k, k ≤ 10 → v'.2 k = v.2 k) ∧ ((x = -1 ∧ ∀ a, ¬ Vld nC nS nP g o d a) ∨ (∃ a, Vld nC nS nP g o d a ∧ x = nI (wA d nP nS a) ∧ (∀ s, s < nS → v'.2 15 s = nI (a s) ∧ v'.2 16 s = nI (bA d nP nS a s)) ∧ ∀ a', Vld nC nS nP g o d a' → kA d nP nS a ≤ kA d nP nS a')) := by
  have hn := hA.2.1
  have hC2 := hA.1
  obtain ⟨v1, k1, k2, k3⟩ := fitM_from hA 32 0 rfl v hM (fun c set _ _ h => by omega) 7
  have hM1 := RM_of hM k1.1 (fun k hk => k1.2 k (by omega) (by omega))
  have e1 : f_Mo_search v = f_Mo_search_71 40 1000000000 1 0 v1 := k3
  have e2 := allM_from hA hM1 1000000000 nS 0 (by omega) 1 (39 - nS)
  rw [show 39 - nS + nS + 1 = 40 by omega, Nat.one_mul] at e2
  have hN4 : (4 * nC) ^ nS ≤ 4096 := by
    have h1 : (4 * nC) ^ nS ≤ 8 ^ nS := Nat.pow_le_pow_left (by omega) nS
    have h2 : 8 ^ nS ≤ 8 ^ 4 := Nat.pow_le_pow_right (by decide) hn
    have h3 : 8 ^ 4 = 4096 := by decide
    omega
  have e3 : f_Mo_search v = f_Mo_search_96 5000 (nI 1000000000) (nI ((4 * nC) ^ nS)) (nI 0) v1 := e1.trans e2
  obtain ⟨L, v', w1, w2, w3⟩ := main_from hA rfl hN4 ((4 * nC) ^ nS) 0 (by omega) 1000000000 v1 hM1 k2 (Or.inl ⟨rfl, fun a ha => by
    obtain ⟨t', h, -⟩ := ha
    omega⟩) (4999 - (4 * nC) ^ nS)
  rw [show 4999 - (4 * nC) ^ nS + (4 * nC) ^ nS + 1 = 5000 by omega, ← e3] at w2
  have hX : ∀ a, Vld nC nS nP g o d a → ∃ t', t' < (4 * nC) ^ nS ∧ ∀ s, s < nS → a s = dig (4 * nC) nS t' s := fun a hV => by
    rcases Nat.eq_zero_or_pos nS with h0 | h0
    · refine ⟨0, ?_, fun s hs => by omega⟩
      rw [h0, Nat.pow_zero]
      decide
    · have := hV.1 0 h0
      exact dig_all (by omega) a nS hV.1
  have hk : v'.1 = v.1 ∧ ∀ k, k ≤ 10 → v'.2 k = v.2 k := ⟨w1.1.trans k1.1, fun k hk => (w1.2 k (Or.inl hk)).trans (k1.2 k (by omega) (by omega))⟩
  rcases w3 with ⟨h1, h2⟩ | ⟨a, h1, h2, h3, h4⟩
  · subst h1
    rw [if_pos (show nI 1000000000 = 1000000000 from rfl)] at w2
    exact ⟨-1, v', w2, hk.1, hk.2, Or.inl ⟨rfl, fun a hV => h2 a (hX a hV) hV⟩⟩
  · have hwb := wA_bd hA h1.1
    rw [if_neg (show ¬ nI L = 1000000000 from fun h => by have := (nI_eq (b := 1000000000) (by omega) (by omega)).mp h; omega)] at w2
    exact ⟨nI L, v', w2, hk.1, hk.2, Or.inr ⟨a, h1, by rw [h2], h3, fun a' hV => h4 a' (hX a' hV) hV⟩⟩
end RS
